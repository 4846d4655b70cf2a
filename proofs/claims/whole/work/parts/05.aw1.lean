def az_tb : List Cond := lw_tbl.filter goodWord
theorem az_tb_in {c : Cond} (h : c ∈ az_tb) : c ∈ lw_tbl := (List.mem_filter.mp h).1
theorem az_tb_good {c : Cond} (h : c ∈ az_tb) : goodWord c = true := (List.mem_filter.mp h).2
/-- a word of the tables by its place -/
theorem az_tw {c : Cond} (i : Nat) (h : lw_tbl[i]? = some c) (hg : goodWord c = true) : c ∈ az_tb := List.mem_filter.mpr ⟨List.mem_of_getElem? h, hg⟩
theorem az_tws {ws : List Cond} (ps : List Nat) (hp : ws = ps.filterMap (fun i => lw_tbl[i]?)) (h : ws.all goodWord = true) : ∀ w ∈ ws, w ∈ az_tb := by
  intro w hw
  have h1 := List.all_eq_true.mp h w hw
  rw [hp] at hw
  obtain ⟨i, -, hi⟩ := List.mem_filterMap.mp hw
  exact az_tw i hi h1
def az_ws (M : az_Md) : List Cond := .code M.1 M.2.1 M.2.2.1 M.2.2.2 :: az_tb
def az_rm (d mc ms : Nat) : Room := { frames := d, cells := mc, slots := ms, locals := 41 * d + 32 }
/-- the fixed facts of one run of a method -/
def az_C (G : az_Gh) (M : az_Md) (p : Program) (s : State) (m : MethodId) (args : Array Value) (meth : Method) (c : Code) : Prop :=
  p.tables.exec = Jvm.exec ∧ c.code = M.2.1 ∧ c.maxLocals = M.2.2.1 ∧ meth.sig.returnType = M.2.2.2 ∧ s.vm.findClass M.1.cls = some m.cls ∧ (∀ w ∈ az_tb, w.before args s = true) ∧ meth.locks = false ∧ az_amb G s ∧ meth.name = M.1.name
def az_lo (G : az_Gh) (n : Nat) (lo : List (Option Value)) (ls : Array Slot) : Prop := ls.size = n ∧ lv_wf ls ∧ ∀ (i : Nat) (v : Value), lo[i]? = some (some v) → ls[i]? = some (.val (az_cv G v))
def AW (l : Launch) (G : az_Gh) (M : az_Md) (d : Nat) (F : az_Fn) (bc bs pc : Nat) (lo : List (Option Value)) (st : List Value) (S : az_St) : Prop :=
  ∀ (p : Program) (e : Env) (s : State) (m : MethodId) (args : Array Value) (below : List Frame) (meth : Method) (c : Code) (H : Heap) (locs : List Loc) (cells slots mc ms : Nat) (ls : Array Slot),
    az_C G M p s m args meth c → az_hp G S H → va_S (az_A G) s.heap H locs → cells + bc ≤ mc → slots + bs ≤ ms → az_lo G M.2.2.1 lo ls →
    W p l e (az_rm d mc ms) s m args below meth c H locs cells slots (F below args s mc ms) (F0 m pc ls (st.map (az_cv G)))
/-- all that locals hold -/
def az_all (ls : Array Slot) : List (Nat × Value) := (List.range ls.size).filterMap (fun (j : Nat) => match (ls[j]? : Option Slot) with
  | some (.val v) => some (j, v)
  | _ => none)
theorem az_all_in {ls : Array Slot} {j : Nat} {v : Value} : (j, v) ∈ az_all ls ↔ ls[j]? = some (.val v) := by
  unfold az_all
  rw [List.mem_filterMap]
  constructor
  · rintro ⟨i, -, h⟩
    split at h
    · rename_i w hw
      cases h
      exact hw
    · cases h
  · intro h
    refine ⟨j, List.mem_range.mpr (Array.getElem?_eq_some_iff.mp h).1, ?_⟩
    rw [h]
theorem az_all_has {G : az_Gh} {n : Nat} {lo : List (Option Value)} {ls : Array Slot} (h : az_lo G n lo ls) : lv_has ls n (az_all ls) := ⟨h.1, h.2.1, fun q hq => az_all_in.mp hq⟩
/-- storing a value of one slot: a long or double just ahead of it is gone -/
def az_s1 (lo : List (Option Value)) (i : Nat) (v : Value) : List (Option Value) := match i with
  | 0 => lo.set 0 (some v)
  | j + 1 => match lo[j]? with
    | some (some x) => if x.category = 2 then (lo.set j none).set (j + 1) (some v) else lo.set (j + 1) (some v)
    | _ => lo.set (j + 1) (some v)
def az_s2 (lo : List (Option Value)) (i : Nat) (v : Value) : List (Option Value) := match i with
  | 0 => (lo.set 0 (some v)).set 1 none
  | j + 1 => match lo[j]? with
    | some (some x) => if x.category = 2 then ((lo.set j none).set (j + 1) (some v)).set (j + 2) none else (lo.set (j + 1) (some v)).set (j + 2) none
    | _ => (lo.set (j + 1) (some v)).set (j + 2) none
theorem az_cat (G : az_Gh) (v : Value) : (az_cv G v).category = v.category := by cases v <;> rfl
theorem az_s1_in {lo : List (Option Value)} {i j : Nat} {v w : Value} (h : (az_s1 lo i v)[j]? = some (some w)) : (j = i ∧ w = v) ∨ (j ≠ i ∧ lo[j]? = some (some w) ∧ ¬ (j + 1 = i ∧ w.category = 2)) := by
  by_cases hj : j = i
  · subst hj
    refine Or.inl ⟨rfl, ?_⟩
    unfold az_s1 at h
    split at h
    · rw [List.getElem?_set_self (by have := az_len h; simpa using this)] at h
      cases h; rfl
    · split at h
      · split at h
        · rw [List.getElem?_set_self (by have := az_len h; simpa using this)] at h
          cases h; rfl
        · rw [List.getElem?_set_self (by have := az_len h; simpa using this)] at h
          cases h; rfl
      · rw [List.getElem?_set_self (by have := az_len h; simpa using this)] at h
        cases h; rfl
  · refine Or.inr ⟨hj, ?_⟩
    unfold az_s1 at h
    split at h
    · rw [List.getElem?_set_ne (fun q => hj q.symm)] at h
      exact ⟨h, fun q => by omega⟩
    · rename_i k
      split at h
      · rename_i x hx
        split at h
        · rename_i hc
          rw [List.getElem?_set_ne (fun q => hj q.symm)] at h
          by_cases hk : j = k
          · subst hk
            rw [List.getElem?_set_self (az_len hx)] at h
            cases h
          · rw [List.getElem?_set_ne (fun q => hk q.symm)] at h
            exact ⟨h, fun q => by omega⟩
        · rename_i hc
          rw [List.getElem?_set_ne (fun q => hj q.symm)] at h
          refine ⟨h, fun q => ?_⟩
          have hk : j = k := by omega
          subst hk
          rw [hx] at h
          cases h
          exact hc q.2
      · rename_i hn
        rw [List.getElem?_set_ne (fun q => hj q.symm)] at h
        refine ⟨h, fun q => ?_⟩
        have hk : j = k := by omega
        subst hk
        exact hn w h
theorem az_s2_in {lo : List (Option Value)} {i j : Nat} {v w : Value} (h : (az_s2 lo i v)[j]? = some (some w)) : (j = i ∧ w = v) ∨ (j ≠ i ∧ j ≠ i + 1 ∧ lo[j]? = some (some w) ∧ ¬ (j + 1 = i ∧ w.category = 2)) := by
  have key : az_s2 lo i v = (az_s1 lo i v).set (i + 1) none := by
    unfold az_s2 az_s1
    split
    · rfl
    · split
      · split <;> rfl
      · rfl
  rw [key] at h
  by_cases hj : j = i + 1
  · subst hj
    by_cases hl : i + 1 < (az_s1 lo i v).length
    · rw [List.getElem?_set_self hl] at h; cases h
    · rw [List.getElem?_eq_none (by simpa using hl)] at h; cases h
  · rw [List.getElem?_set_ne (fun q => hj q.symm)] at h
    rcases az_s1_in h with q | ⟨q1, q2⟩
    · exact Or.inl q
    · exact Or.inr ⟨q1, hj, q2⟩
theorem az_lo_s1 {G : az_Gh} {n i : Nat} {lo : List (Option Value)} {ls ls' : Array Slot} {v : Value} (h : az_lo G n lo ls) (h' : lv_has ls' n ((i, az_cv G v) :: (az_all ls).filter (fun q => !(q.1 == i) && !(q.1 + 1 == i && q.2.category == 2)))) : az_lo G n (az_s1 lo i v) ls' := by
  refine ⟨h'.1, h'.2.1, fun j w hj => ?_⟩
  rcases az_s1_in hj with ⟨rfl, rfl⟩ | ⟨q1, q2, q3⟩
  · exact h'.2.2 _ List.mem_cons_self
  · refine h'.2.2 (j, az_cv G w) (List.mem_cons_of_mem _ (List.mem_filter.mpr ⟨az_all_in.mpr (h.2.2 j w q2), ?_⟩))
    simp only [Bool.and_eq_true, Bool.not_eq_true', beq_eq_false_iff_ne, ne_eq, Bool.and_eq_false_iff, az_cat]
    refine ⟨q1, ?_⟩
    by_cases h1 : j + 1 = i
    · exact Or.inr (fun h2 => q3 ⟨h1, h2⟩)
    · exact Or.inl h1
theorem az_lo_s2 {G : az_Gh} {n i : Nat} {lo : List (Option Value)} {ls ls' : Array Slot} {v : Value} (h : az_lo G n lo ls) (h' : lv_has ls' n ((i, az_cv G v) :: (az_all ls).filter (fun q => !(q.1 == i) && (!(q.1 == i + 1) && !(q.1 + 1 == i && q.2.category == 2))))) : az_lo G n (az_s2 lo i v) ls' := by
  refine ⟨h'.1, h'.2.1, fun j w hj => ?_⟩
  rcases az_s2_in hj with ⟨rfl, rfl⟩ | ⟨q1, q0, q2, q3⟩
  · exact h'.2.2 _ List.mem_cons_self
  · refine h'.2.2 (j, az_cv G w) (List.mem_cons_of_mem _ (List.mem_filter.mpr ⟨az_all_in.mpr (h.2.2 j w q2), ?_⟩))
    simp only [Bool.and_eq_true, Bool.not_eq_true', beq_eq_false_iff_ne, ne_eq, Bool.and_eq_false_iff, az_cat]
    refine ⟨q1, q0, ?_⟩
    by_cases h1 : j + 1 = i
    · exact Or.inr (fun h2 => q3 ⟨h1, h2⟩)
    · exact Or.inl h1
section AzRows
variable {l : Launch} {G : az_Gh} {M : az_Md} {d : Nat} {F : az_Fn} {bc bs pc : Nat} {lo : List (Option Value)} {st : List Value} {S : az_St}
theorem A_iconst {n : Int} {v : Int32} (hd : decode M.2.1 pc = .ok (.iconst n, 1)) (hv : Int32.ofInt n = v) (k : AW l G M d F bc bs (pc + 1) lo (.int v :: st) S) : AW l G M d F bc bs pc lo st S := by
  intro p e s m args below meth c H locs cells slots mc ms ls hC hH hS h1 h2 hl
  exact lv_iconst hC.1 hC.2.1 hd hv (k p e s m args below meth c H locs cells slots mc ms ls hC hH hS h1 h2 hl)
theorem A_bipush {n : Int} {v : Int32} (hd : decode M.2.1 pc = .ok (.bipush n, 2)) (hv : (Int8.ofInt n).toInt32 = v) (k : AW l G M d F bc bs (pc + 2) lo (.int v :: st) S) : AW l G M d F bc bs pc lo st S := by
  intro p e s m args below meth c H locs cells slots mc ms ls hC hH hS h1 h2 hl
  exact lv_bipush hC.1 hC.2.1 hd hv (k p e s m args below meth c H locs cells slots mc ms ls hC hH hS h1 h2 hl)
theorem A_sipush {n : Int} {v : Int32} (hd : decode M.2.1 pc = .ok (.sipush n, 3)) (hv : (Int16.ofInt n).toInt32 = v) (k : AW l G M d F bc bs (pc + 3) lo (.int v :: st) S) : AW l G M d F bc bs pc lo st S := by
  intro p e s m args below meth c H locs cells slots mc ms ls hC hH hS h1 h2 hl
  exact lv_sipush hC.1 hC.2.1 hd hv (k p e s m args below meth c H locs cells slots mc ms ls hC hH hS h1 h2 hl)
theorem A_lconst {n : Fin 2} {v : Int64} (hd : decode M.2.1 pc = .ok (.lconst n, 1)) (hv : Int64.ofNat (n : Nat) = v) (k : AW l G M d F bc bs (pc + 1) lo (.long v :: st) S) : AW l G M d F bc bs pc lo st S := by
  intro p e s m args below meth c H locs cells slots mc ms ls hC hH hS h1 h2 hl
  exact lv_lconst hC.1 hC.2.1 hd hv (k p e s m args below meth c H locs cells slots mc ms ls hC hH hS h1 h2 hl)
theorem A_ldc {i : Nat} {v : Int32} (hd : decode M.2.1 pc = .ok (.ldc i, 2)) (hw : Cond.constant M.1.cls i v ∈ az_tb) (k : AW l G M d F bc bs (pc + 2) lo (.int v :: st) S) : AW l G M d F bc bs pc lo st S := by
  intro p e s m args below meth c H locs cells slots mc ms ls hC hH hS h1 h2 hl
  exact lv_ldc hC.1 hC.2.1 hC.2.2.2.2.1 (hC.2.2.2.2.2.1 _ hw) hd (k p e s m args below meth c H locs cells slots mc ms ls hC hH hS h1 h2 hl)
theorem A_ldcw {i : Nat} {v : Int32} (hd : decode M.2.1 pc = .ok (.ldc_w i, 3)) (hw : Cond.constant M.1.cls i v ∈ az_tb) (k : AW l G M d F bc bs (pc + 3) lo (.int v :: st) S) : AW l G M d F bc bs pc lo st S := by
  intro p e s m args below meth c H locs cells slots mc ms ls hC hH hS h1 h2 hl
  exact lv_ldcw hC.1 hC.2.1 hC.2.2.2.2.1 (hC.2.2.2.2.2.1 _ hw) hd (k p e s m args below meth c H locs cells slots mc ms ls hC hH hS h1 h2 hl)
theorem A_ldc2 {i : Nat} {v : Int64} (hd : decode M.2.1 pc = .ok (.ldc2_w i, 3)) (hw : Cond.constantLong M.1.cls i v ∈ az_tb) (k : AW l G M d F bc bs (pc + 3) lo (.long v :: st) S) : AW l G M d F bc bs pc lo st S := by
  intro p e s m args below meth c H locs cells slots mc ms ls hC hH hS h1 h2 hl
  exact lv_ldc2 hC.1 hC.2.1 hC.2.2.2.2.1 (hC.2.2.2.2.2.1 _ hw) hd (k p e s m args below meth c H locs cells slots mc ms ls hC hH hS h1 h2 hl)
theorem A_ldcS {i n : Nat} (hd : decode M.2.1 pc = .ok (.ldc i, 2)) (hw : (M.1.cls, i, n) ∈ az_strs) (k : AW l G M d F bc bs (pc + 2) lo (.ref (2000 + n) :: st) S) : AW l G M d F bc bs pc lo st S := by
  intro p e s m args below meth c H locs cells slots mc ms ls hC hH hS h1 h2 hl
  exact va_ldcS hC.1 hC.2.1 hC.2.2.2.2.1 (hC.2.2.2.2.2.2.2.1.2.2.2.1 _ hw) hd (by
    have k9 := k p e s m args below meth c H locs cells slots mc ms ls hC hH hS h1 h2 hl
    rw [List.map_cons, show az_cv G (.ref (2000 + n)) = .ref (G.2.1 (2000 + n)) from congrArg Value.ref (if_neg (by omega))] at k9
    exact k9)
theorem A_iload_n {k0 : Fin 4} {i : Nat} {x : Int32} (hd : decode M.2.1 pc = .ok (.iload_n k0, 1)) (hi : (k0 : Nat) = i) (hx : lo[i]? = some (some (.int x))) (k : AW l G M d F bc bs (pc + 1) lo (.int x :: st) S) : AW l G M d F bc bs pc lo st S := by
  intro p e s m args below meth c H locs cells slots mc ms ls hC hH hS h1 h2 hl
  exact lv_iload_n hC.1 hC.2.1 hd hi (hl.2.2 i _ hx) (k p e s m args below meth c H locs cells slots mc ms ls hC hH hS h1 h2 hl)
theorem A_iload {i : Nat} {x : Int32} (hd : decode M.2.1 pc = .ok (.iload i, 2)) (hx : lo[i]? = some (some (.int x))) (k : AW l G M d F bc bs (pc + 2) lo (.int x :: st) S) : AW l G M d F bc bs pc lo st S := by
  intro p e s m args below meth c H locs cells slots mc ms ls hC hH hS h1 h2 hl
  exact lv_iload hC.1 hC.2.1 hd (hl.2.2 i _ hx) (k p e s m args below meth c H locs cells slots mc ms ls hC hH hS h1 h2 hl)
theorem A_lload_n {k0 : Fin 4} {i : Nat} {x : Int64} (hd : decode M.2.1 pc = .ok (.lload_n k0, 1)) (hi : (k0 : Nat) = i) (hx : lo[i]? = some (some (.long x))) (k : AW l G M d F bc bs (pc + 1) lo (.long x :: st) S) : AW l G M d F bc bs pc lo st S := by
  intro p e s m args below meth c H locs cells slots mc ms ls hC hH hS h1 h2 hl
  exact lv_lload_n hC.1 hC.2.1 hd hi (hl.2.2 i _ hx) (k p e s m args below meth c H locs cells slots mc ms ls hC hH hS h1 h2 hl)
theorem A_lload {i : Nat} {x : Int64} (hd : decode M.2.1 pc = .ok (.lload i, 2)) (hx : lo[i]? = some (some (.long x))) (k : AW l G M d F bc bs (pc + 2) lo (.long x :: st) S) : AW l G M d F bc bs pc lo st S := by
  intro p e s m args below meth c H locs cells slots mc ms ls hC hH hS h1 h2 hl
  exact lv_lload hC.1 hC.2.1 hd (hl.2.2 i _ hx) (k p e s m args below meth c H locs cells slots mc ms ls hC hH hS h1 h2 hl)
theorem A_aload_n {k0 : Fin 4} {i : Nat} {x : Nat} (hd : decode M.2.1 pc = .ok (.aload_n k0, 1)) (hi : (k0 : Nat) = i) (hx : lo[i]? = some (some (.ref x))) (k : AW l G M d F bc bs (pc + 1) lo (.ref x :: st) S) : AW l G M d F bc bs pc lo st S := by
  intro p e s m args below meth c H locs cells slots mc ms ls hC hH hS h1 h2 hl
  exact lv_aload_n hC.1 hC.2.1 hd hi (hl.2.2 i _ hx) (k p e s m args below meth c H locs cells slots mc ms ls hC hH hS h1 h2 hl)
theorem A_aload {i : Nat} {x : Nat} (hd : decode M.2.1 pc = .ok (.aload i, 2)) (hx : lo[i]? = some (some (.ref x))) (k : AW l G M d F bc bs (pc + 2) lo (.ref x :: st) S) : AW l G M d F bc bs pc lo st S := by
  intro p e s m args below meth c H locs cells slots mc ms ls hC hH hS h1 h2 hl
  exact lv_aload hC.1 hC.2.1 hd (hl.2.2 i _ hx) (k p e s m args below meth c H locs cells slots mc ms ls hC hH hS h1 h2 hl)
theorem A_istore_n {k0 : Fin 4} {i : Nat} {x : Int32} {lo2 : List (Option Value)} (hd : decode M.2.1 pc = .ok (.istore_n k0, 1)) (hi : (k0 : Nat) = i) (hn : i < M.2.2.1) (he : az_s1 lo i (.int x) = lo2) (k : AW l G M d F bc bs (pc + 1) lo2 st S) : AW l G M d F bc bs pc lo (.int x :: st) S := by
  intro p e s m args below meth c H locs cells slots mc ms ls hC hH hS h1 h2 hl
  subst he
  exact lv_istore_n hC.1 hC.2.1 hd hi (az_all_has hl) hn rfl (fun ls2 h2l => k p e s m args below meth c H locs cells slots mc ms ls2 hC hH hS h1 h2 (az_lo_s1 (v := .int x) hl h2l))
theorem A_istore {i : Nat} {x : Int32} {lo2 : List (Option Value)} (hd : decode M.2.1 pc = .ok (.istore i, 2)) (hn : i < M.2.2.1) (he : az_s1 lo i (.int x) = lo2) (k : AW l G M d F bc bs (pc + 2) lo2 st S) : AW l G M d F bc bs pc lo (.int x :: st) S := by
  intro p e s m args below meth c H locs cells slots mc ms ls hC hH hS h1 h2 hl
  subst he
  exact lv_istore hC.1 hC.2.1 hd (az_all_has hl) hn rfl (fun ls2 h2l => k p e s m args below meth c H locs cells slots mc ms ls2 hC hH hS h1 h2 (az_lo_s1 (v := .int x) hl h2l))
theorem A_lstore_n {k0 : Fin 4} {i : Nat} {x : Int64} {lo2 : List (Option Value)} (hd : decode M.2.1 pc = .ok (.lstore_n k0, 1)) (hi : (k0 : Nat) = i) (hn : i + 1 < M.2.2.1) (he : az_s2 lo i (.long x) = lo2) (k : AW l G M d F bc bs (pc + 1) lo2 st S) : AW l G M d F bc bs pc lo (.long x :: st) S := by
  intro p e s m args below meth c H locs cells slots mc ms ls hC hH hS h1 h2 hl
  subst he
  exact lv_lstore_n hC.1 hC.2.1 hd hi (az_all_has hl) hn rfl (fun ls2 h2l => k p e s m args below meth c H locs cells slots mc ms ls2 hC hH hS h1 h2 (az_lo_s2 (v := .long x) hl h2l))
theorem A_lstore {i : Nat} {x : Int64} {lo2 : List (Option Value)} (hd : decode M.2.1 pc = .ok (.lstore i, 2)) (hn : i + 1 < M.2.2.1) (he : az_s2 lo i (.long x) = lo2) (k : AW l G M d F bc bs (pc + 2) lo2 st S) : AW l G M d F bc bs pc lo (.long x :: st) S := by
  intro p e s m args below meth c H locs cells slots mc ms ls hC hH hS h1 h2 hl
  subst he
  exact lv_lstore hC.1 hC.2.1 hd (az_all_has hl) hn rfl (fun ls2 h2l => k p e s m args below meth c H locs cells slots mc ms ls2 hC hH hS h1 h2 (az_lo_s2 (v := .long x) hl h2l))
theorem A_astore_n {k0 : Fin 4} {i : Nat} {x : Nat} {lo2 : List (Option Value)} (hd : decode M.2.1 pc = .ok (.astore_n k0, 1)) (hi : (k0 : Nat) = i) (hn : i < M.2.2.1) (he : az_s1 lo i (.ref x) = lo2) (k : AW l G M d F bc bs (pc + 1) lo2 st S) : AW l G M d F bc bs pc lo (.ref x :: st) S := by
  intro p e s m args below meth c H locs cells slots mc ms ls hC hH hS h1 h2 hl
  subst he
  exact lv_astore_n hC.1 hC.2.1 hd hi (az_all_has hl) hn rfl (fun ls2 h2l => k p e s m args below meth c H locs cells slots mc ms ls2 hC hH hS h1 h2 (az_lo_s1 (v := .ref x) hl h2l))
theorem A_astore {i : Nat} {x : Nat} {lo2 : List (Option Value)} (hd : decode M.2.1 pc = .ok (.astore i, 2)) (hn : i < M.2.2.1) (he : az_s1 lo i (.ref x) = lo2) (k : AW l G M d F bc bs (pc + 2) lo2 st S) : AW l G M d F bc bs pc lo (.ref x :: st) S := by
  intro p e s m args below meth c H locs cells slots mc ms ls hC hH hS h1 h2 hl
  subst he
  exact lv_astore hC.1 hC.2.1 hd (az_all_has hl) hn rfl (fun ls2 h2l => k p e s m args below meth c H locs cells slots mc ms ls2 hC hH hS h1 h2 (az_lo_s1 (v := .ref x) hl h2l))
theorem A_iinc {i : Nat} {n : Int} {x v : Int32} {lo2 : List (Option Value)} (hd : decode M.2.1 pc = .ok (.iinc i n, 3)) (hx : lo[i]? = some (some (.int x))) (hv : x + Int32.ofInt n = v) (hn : i < M.2.2.1) (he : az_s1 lo i (.int v) = lo2) (k : AW l G M d F bc bs (pc + 3) lo2 st S) : AW l G M d F bc bs pc lo st S := by
  intro p e s m args below meth c H locs cells slots mc ms ls hC hH hS h1 h2 hl
  subst he
  obtain ⟨k9, hk9⟩ := List.getElem?_of_mem (az_all_in.mpr (hl.2.2 i _ hx))
  exact lv_iinc hC.1 hC.2.1 hd (az_all_has hl) hk9 hv hn rfl (fun ls2 h2l => k p e s m args below meth c H locs cells slots mc ms ls2 hC hH hS h1 h2 (az_lo_s1 (v := .int v) hl h2l))
theorem A_iadd {x y : Int32} (hd : decode M.2.1 pc = .ok (.iadd, 1)) (k : AW l G M d F bc bs (pc + 1) lo (.int (x + y) :: st) S) : AW l G M d F bc bs pc lo (.int y :: .int x :: st) S := by
  intro p e s m args below meth c H locs cells slots mc ms ls hC hH hS h1 h2 hl
  exact lv_iadd hC.1 hC.2.1 hd (k p e s m args below meth c H locs cells slots mc ms ls hC hH hS h1 h2 hl)
theorem A_isub {x y : Int32} (hd : decode M.2.1 pc = .ok (.isub, 1)) (k : AW l G M d F bc bs (pc + 1) lo (.int (x - y) :: st) S) : AW l G M d F bc bs pc lo (.int y :: .int x :: st) S := by
  intro p e s m args below meth c H locs cells slots mc ms ls hC hH hS h1 h2 hl
  exact lv_isub hC.1 hC.2.1 hd (k p e s m args below meth c H locs cells slots mc ms ls hC hH hS h1 h2 hl)
theorem A_imul {x y : Int32} (hd : decode M.2.1 pc = .ok (.imul, 1)) (k : AW l G M d F bc bs (pc + 1) lo (.int (x * y) :: st) S) : AW l G M d F bc bs pc lo (.int y :: .int x :: st) S := by
  intro p e s m args below meth c H locs cells slots mc ms ls hC hH hS h1 h2 hl
  exact lv_imul hC.1 hC.2.1 hd (k p e s m args below meth c H locs cells slots mc ms ls hC hH hS h1 h2 hl)
theorem A_iand {x y : Int32} (hd : decode M.2.1 pc = .ok (.iand, 1)) (k : AW l G M d F bc bs (pc + 1) lo (.int (x &&& y) :: st) S) : AW l G M d F bc bs pc lo (.int y :: .int x :: st) S := by
  intro p e s m args below meth c H locs cells slots mc ms ls hC hH hS h1 h2 hl
  exact lv_iand hC.1 hC.2.1 hd (k p e s m args below meth c H locs cells slots mc ms ls hC hH hS h1 h2 hl)
theorem A_ior {x y : Int32} (hd : decode M.2.1 pc = .ok (.ior, 1)) (k : AW l G M d F bc bs (pc + 1) lo (.int (x ||| y) :: st) S) : AW l G M d F bc bs pc lo (.int y :: .int x :: st) S := by
  intro p e s m args below meth c H locs cells slots mc ms ls hC hH hS h1 h2 hl
  exact lv_ior hC.1 hC.2.1 hd (k p e s m args below meth c H locs cells slots mc ms ls hC hH hS h1 h2 hl)
theorem A_ixor {x y : Int32} (hd : decode M.2.1 pc = .ok (.ixor, 1)) (k : AW l G M d F bc bs (pc + 1) lo (.int (x ^^^ y) :: st) S) : AW l G M d F bc bs pc lo (.int y :: .int x :: st) S := by
  intro p e s m args below meth c H locs cells slots mc ms ls hC hH hS h1 h2 hl
  exact lv_ixor hC.1 hC.2.1 hd (k p e s m args below meth c H locs cells slots mc ms ls hC hH hS h1 h2 hl)
theorem A_ishl {x y : Int32} (hd : decode M.2.1 pc = .ok (.ishl, 1)) (k : AW l G M d F bc bs (pc + 1) lo (.int (x <<< (y &&& 31)) :: st) S) : AW l G M d F bc bs pc lo (.int y :: .int x :: st) S := by
  intro p e s m args below meth c H locs cells slots mc ms ls hC hH hS h1 h2 hl
  exact lv_ishl hC.1 hC.2.1 hd (k p e s m args below meth c H locs cells slots mc ms ls hC hH hS h1 h2 hl)
theorem A_ishr {x y : Int32} (hd : decode M.2.1 pc = .ok (.ishr, 1)) (k : AW l G M d F bc bs (pc + 1) lo (.int (x >>> (y &&& 31)) :: st) S) : AW l G M d F bc bs pc lo (.int y :: .int x :: st) S := by
  intro p e s m args below meth c H locs cells slots mc ms ls hC hH hS h1 h2 hl
  exact lv_ishr hC.1 hC.2.1 hd (k p e s m args below meth c H locs cells slots mc ms ls hC hH hS h1 h2 hl)
theorem A_iushr {x y : Int32} (hd : decode M.2.1 pc = .ok (.iushr, 1)) (k : AW l G M d F bc bs (pc + 1) lo (.int (x.toUInt32 >>> (y.toUInt32 &&& Int32.toUInt32 31)).toInt32 :: st) S) : AW l G M d F bc bs pc lo (.int y :: .int x :: st) S := by
  intro p e s m args below meth c H locs cells slots mc ms ls hC hH hS h1 h2 hl
  exact lv_iushr hC.1 hC.2.1 hd rfl (k p e s m args below meth c H locs cells slots mc ms ls hC hH hS h1 h2 hl)
theorem A_idiv {x y : Int32} (hd : decode M.2.1 pc = .ok (.idiv, 1)) (hne : ¬ y = 0) (k : AW l G M d F bc bs (pc + 1) lo (.int (x / y) :: st) S) : AW l G M d F bc bs pc lo (.int y :: .int x :: st) S := by
  intro p e s m args below meth c H locs cells slots mc ms ls hC hH hS h1 h2 hl
  exact lv_idiv hC.1 hC.2.1 hd hne (k p e s m args below meth c H locs cells slots mc ms ls hC hH hS h1 h2 hl)
theorem A_irem {x y : Int32} (hd : decode M.2.1 pc = .ok (.irem, 1)) (hne : ¬ y = 0) (k : AW l G M d F bc bs (pc + 1) lo (.int (x - x / y * y) :: st) S) : AW l G M d F bc bs pc lo (.int y :: .int x :: st) S := by
  intro p e s m args below meth c H locs cells slots mc ms ls hC hH hS h1 h2 hl
  exact lv_irem hC.1 hC.2.1 hd hne (k p e s m args below meth c H locs cells slots mc ms ls hC hH hS h1 h2 hl)
theorem A_ineg {x : Int32} (hd : decode M.2.1 pc = .ok (.ineg, 1)) (k : AW l G M d F bc bs (pc + 1) lo (.int (-x) :: st) S) : AW l G M d F bc bs pc lo (.int x :: st) S := by
  intro p e s m args below meth c H locs cells slots mc ms ls hC hH hS h1 h2 hl
  exact lv_ineg hC.1 hC.2.1 hd (k p e s m args below meth c H locs cells slots mc ms ls hC hH hS h1 h2 hl)
theorem A_ladd {x y : Int64} (hd : decode M.2.1 pc = .ok (.ladd, 1)) (k : AW l G M d F bc bs (pc + 1) lo (.long (x + y) :: st) S) : AW l G M d F bc bs pc lo (.long y :: .long x :: st) S := by
  intro p e s m args below meth c H locs cells slots mc ms ls hC hH hS h1 h2 hl
  exact lv_ladd hC.1 hC.2.1 hd (k p e s m args below meth c H locs cells slots mc ms ls hC hH hS h1 h2 hl)
theorem A_lsub {x y : Int64} (hd : decode M.2.1 pc = .ok (.lsub, 1)) (k : AW l G M d F bc bs (pc + 1) lo (.long (x - y) :: st) S) : AW l G M d F bc bs pc lo (.long y :: .long x :: st) S := by
  intro p e s m args below meth c H locs cells slots mc ms ls hC hH hS h1 h2 hl
  exact lv_lsub hC.1 hC.2.1 hd (k p e s m args below meth c H locs cells slots mc ms ls hC hH hS h1 h2 hl)
theorem A_lmul {x y : Int64} (hd : decode M.2.1 pc = .ok (.lmul, 1)) (k : AW l G M d F bc bs (pc + 1) lo (.long (x * y) :: st) S) : AW l G M d F bc bs pc lo (.long y :: .long x :: st) S := by
  intro p e s m args below meth c H locs cells slots mc ms ls hC hH hS h1 h2 hl
  exact lv_lmul hC.1 hC.2.1 hd (k p e s m args below meth c H locs cells slots mc ms ls hC hH hS h1 h2 hl)
theorem A_land {x y : Int64} (hd : decode M.2.1 pc = .ok (.land, 1)) (k : AW l G M d F bc bs (pc + 1) lo (.long (x &&& y) :: st) S) : AW l G M d F bc bs pc lo (.long y :: .long x :: st) S := by
  intro p e s m args below meth c H locs cells slots mc ms ls hC hH hS h1 h2 hl
  exact lv_land hC.1 hC.2.1 hd (k p e s m args below meth c H locs cells slots mc ms ls hC hH hS h1 h2 hl)
theorem A_lor {x y : Int64} (hd : decode M.2.1 pc = .ok (.lor, 1)) (k : AW l G M d F bc bs (pc + 1) lo (.long (x ||| y) :: st) S) : AW l G M d F bc bs pc lo (.long y :: .long x :: st) S := by
  intro p e s m args below meth c H locs cells slots mc ms ls hC hH hS h1 h2 hl
  exact lv_lor hC.1 hC.2.1 hd (k p e s m args below meth c H locs cells slots mc ms ls hC hH hS h1 h2 hl)
theorem A_ldiv {x y : Int64} (hd : decode M.2.1 pc = .ok (.ldiv, 1)) (hne : ¬ y = 0) (k : AW l G M d F bc bs (pc + 1) lo (.long (x / y) :: st) S) : AW l G M d F bc bs pc lo (.long y :: .long x :: st) S := by
  intro p e s m args below meth c H locs cells slots mc ms ls hC hH hS h1 h2 hl
  exact lv_ldiv hC.1 hC.2.1 hd hne (k p e s m args below meth c H locs cells slots mc ms ls hC hH hS h1 h2 hl)
theorem A_lshl {x : Int64} {y : Int32} (hd : decode M.2.1 pc = .ok (.lshl, 1)) (k : AW l G M d F bc bs (pc + 1) lo (.long (x <<< (y.toInt64 &&& 63)) :: st) S) : AW l G M d F bc bs pc lo (.int y :: .long x :: st) S := by
  intro p e s m args below meth c H locs cells slots mc ms ls hC hH hS h1 h2 hl
  exact lv_lshl hC.1 hC.2.1 hd rfl (k p e s m args below meth c H locs cells slots mc ms ls hC hH hS h1 h2 hl)
theorem A_lcmp {x y : Int64} (hd : decode M.2.1 pc = .ok (.lcmp, 1)) (k : AW l G M d F bc bs (pc + 1) lo (.int (lg_cmp x y) :: st) S) : AW l G M d F bc bs pc lo (.long y :: .long x :: st) S := by
  intro p e s m args below meth c H locs cells slots mc ms ls hC hH hS h1 h2 hl
  exact W.lcmp hC.1 hC.2.1 hd (k p e s m args below meth c H locs cells slots mc ms ls hC hH hS h1 h2 hl)
theorem A_i2l {x : Int32} (hd : decode M.2.1 pc = .ok (.i2l, 1)) (k : AW l G M d F bc bs (pc + 1) lo (.long (x.toInt64) :: st) S) : AW l G M d F bc bs pc lo (.int x :: st) S := by
  intro p e s m args below meth c H locs cells slots mc ms ls hC hH hS h1 h2 hl
  exact lv_i2l hC.1 hC.2.1 hd rfl (k p e s m args below meth c H locs cells slots mc ms ls hC hH hS h1 h2 hl)
theorem A_l2i {x : Int64} (hd : decode M.2.1 pc = .ok (.l2i, 1)) (k : AW l G M d F bc bs (pc + 1) lo (.int (x.toInt32) :: st) S) : AW l G M d F bc bs pc lo (.long x :: st) S := by
  intro p e s m args below meth c H locs cells slots mc ms ls hC hH hS h1 h2 hl
  exact lv_l2i hC.1 hC.2.1 hd rfl (k p e s m args below meth c H locs cells slots mc ms ls hC hH hS h1 h2 hl)
theorem A_i2b {x : Int32} (hd : decode M.2.1 pc = .ok (.i2b, 1)) (k : AW l G M d F bc bs (pc + 1) lo (.int (x.toInt8.toInt32) :: st) S) : AW l G M d F bc bs pc lo (.int x :: st) S := by
  intro p e s m args below meth c H locs cells slots mc ms ls hC hH hS h1 h2 hl
  exact lv_i2b hC.1 hC.2.1 hd rfl (k p e s m args below meth c H locs cells slots mc ms ls hC hH hS h1 h2 hl)
theorem A_i2s {x : Int32} (hd : decode M.2.1 pc = .ok (.i2s, 1)) (k : AW l G M d F bc bs (pc + 1) lo (.int (x.toInt16.toInt32) :: st) S) : AW l G M d F bc bs pc lo (.int x :: st) S := by
  intro p e s m args below meth c H locs cells slots mc ms ls hC hH hS h1 h2 hl
  exact lv_i2s hC.1 hC.2.1 hd rfl (k p e s m args below meth c H locs cells slots mc ms ls hC hH hS h1 h2 hl)
theorem A_i2c {x : Int32} (hd : decode M.2.1 pc = .ok (.i2c, 1)) (k : AW l G M d F bc bs (pc + 1) lo (.int ((x.toUInt32 % 65536).toInt32) :: st) S) : AW l G M d F bc bs pc lo (.int x :: st) S := by
  intro p e s m args below meth c H locs cells slots mc ms ls hC hH hS h1 h2 hl
  exact lv_i2c hC.1 hC.2.1 hd rfl (k p e s m args below meth c H locs cells slots mc ms ls hC hH hS h1 h2 hl)
theorem A_dup {v : Value} (hd : decode M.2.1 pc = .ok (.dup, 1)) (hv : (az_cv G v).category = 1) (k : AW l G M d F bc bs (pc + 1) lo (v :: v :: st) S) : AW l G M d F bc bs pc lo (v :: st) S := by
  intro p e s m args below meth c H locs cells slots mc ms ls hC hH hS h1 h2 hl
  exact lv_dup hC.1 hC.2.1 hd hv (k p e s m args below meth c H locs cells slots mc ms ls hC hH hS h1 h2 hl)
theorem A_pop {v : Value} (hd : decode M.2.1 pc = .ok (.pop, 1)) (hv : (az_cv G v).category = 1) (k : AW l G M d F bc bs (pc + 1) lo st S) : AW l G M d F bc bs pc lo (v :: st) S := by
  intro p e s m args below meth c H locs cells slots mc ms ls hC hH hS h1 h2 hl
  exact lv_pop hC.1 hC.2.1 hd hv (k p e s m args below meth c H locs cells slots mc ms ls hC hH hS h1 h2 hl)
theorem A_dup_x1 {v u : Value} (hd : decode M.2.1 pc = .ok (.dup_x1, 1)) (hv : (az_cv G v).category = 1) (hu : (az_cv G u).category = 1) (k : AW l G M d F bc bs (pc + 1) lo (v :: u :: v :: st) S) : AW l G M d F bc bs pc lo (v :: u :: st) S := by
  intro p e s m args below meth c H locs cells slots mc ms ls hC hH hS h1 h2 hl
  exact lv_dup_x1 hC.1 hC.2.1 hd hv hu (k p e s m args below meth c H locs cells slots mc ms ls hC hH hS h1 h2 hl)
theorem A_dup2 {v u : Value} (hd : decode M.2.1 pc = .ok (.dup2, 1)) (hv : (az_cv G v).category = 1) (hu : (az_cv G u).category = 1) (k : AW l G M d F bc bs (pc + 1) lo (v :: u :: v :: u :: st) S) : AW l G M d F bc bs pc lo (v :: u :: st) S := by
  intro p e s m args below meth c H locs cells slots mc ms ls hC hH hS h1 h2 hl
  exact lv_dup2_11 hC.1 hC.2.1 hd hv hu (k p e s m args below meth c H locs cells slots mc ms ls hC hH hS h1 h2 hl)
theorem A_if_eq {x : Int32} {off : Int} {tgt : Nat} (hd : decode M.2.1 pc = .ok (.ifCond .eq off, 3)) (ht : (pc : Int) + off = (tgt : Int)) (kt : x = 0 → AW l G M d F bc bs tgt lo st S) (kf : ¬ x = 0 → AW l G M d F bc bs (pc + 3) lo st S) : AW l G M d F bc bs pc lo (.int x :: st) S := by
  intro p e s m args below meth c H locs cells slots mc ms ls hC hH hS h1 h2 hl
  exact lv_if_eq hC.1 hC.2.1 hd ht (fun q => kt q p e s m args below meth c H locs cells slots mc ms ls hC hH hS h1 h2 hl) (fun q => kf q p e s m args below meth c H locs cells slots mc ms ls hC hH hS h1 h2 hl)
theorem A_icmp_eq {x y : Int32} {off : Int} {tgt : Nat} (hd : decode M.2.1 pc = .ok (.if_icmp .eq off, 3)) (ht : (pc : Int) + off = (tgt : Int)) (kt : x = y → AW l G M d F bc bs tgt lo st S) (kf : ¬ x = y → AW l G M d F bc bs (pc + 3) lo st S) : AW l G M d F bc bs pc lo (.int y :: .int x :: st) S := by
  intro p e s m args below meth c H locs cells slots mc ms ls hC hH hS h1 h2 hl
  exact lv_icmp_eq hC.1 hC.2.1 hd ht (fun q => kt q p e s m args below meth c H locs cells slots mc ms ls hC hH hS h1 h2 hl) (fun q => kf q p e s m args below meth c H locs cells slots mc ms ls hC hH hS h1 h2 hl)
theorem A_if_ne {x : Int32} {off : Int} {tgt : Nat} (hd : decode M.2.1 pc = .ok (.ifCond .ne off, 3)) (ht : (pc : Int) + off = (tgt : Int)) (kt : (¬ x = 0) → AW l G M d F bc bs tgt lo st S) (kf : x = 0 → AW l G M d F bc bs (pc + 3) lo st S) : AW l G M d F bc bs pc lo (.int x :: st) S := by
  intro p e s m args below meth c H locs cells slots mc ms ls hC hH hS h1 h2 hl
  exact lv_if_ne hC.1 hC.2.1 hd ht (fun q => kt q p e s m args below meth c H locs cells slots mc ms ls hC hH hS h1 h2 hl) (fun q => kf q p e s m args below meth c H locs cells slots mc ms ls hC hH hS h1 h2 hl)
theorem A_icmp_ne {x y : Int32} {off : Int} {tgt : Nat} (hd : decode M.2.1 pc = .ok (.if_icmp .ne off, 3)) (ht : (pc : Int) + off = (tgt : Int)) (kt : (¬ x = y) → AW l G M d F bc bs tgt lo st S) (kf : x = y → AW l G M d F bc bs (pc + 3) lo st S) : AW l G M d F bc bs pc lo (.int y :: .int x :: st) S := by
  intro p e s m args below meth c H locs cells slots mc ms ls hC hH hS h1 h2 hl
  exact lv_icmp_ne hC.1 hC.2.1 hd ht (fun q => kt q p e s m args below meth c H locs cells slots mc ms ls hC hH hS h1 h2 hl) (fun q => kf q p e s m args below meth c H locs cells slots mc ms ls hC hH hS h1 h2 hl)
theorem A_if_lt {x : Int32} {off : Int} {tgt : Nat} (hd : decode M.2.1 pc = .ok (.ifCond .lt off, 3)) (ht : (pc : Int) + off = (tgt : Int)) (kt : x < 0 → AW l G M d F bc bs tgt lo st S) (kf : ¬ x < 0 → AW l G M d F bc bs (pc + 3) lo st S) : AW l G M d F bc bs pc lo (.int x :: st) S := by
  intro p e s m args below meth c H locs cells slots mc ms ls hC hH hS h1 h2 hl
  exact lv_if_lt hC.1 hC.2.1 hd ht (fun q => kt q p e s m args below meth c H locs cells slots mc ms ls hC hH hS h1 h2 hl) (fun q => kf q p e s m args below meth c H locs cells slots mc ms ls hC hH hS h1 h2 hl)
theorem A_icmp_lt {x y : Int32} {off : Int} {tgt : Nat} (hd : decode M.2.1 pc = .ok (.if_icmp .lt off, 3)) (ht : (pc : Int) + off = (tgt : Int)) (kt : x < y → AW l G M d F bc bs tgt lo st S) (kf : ¬ x < y → AW l G M d F bc bs (pc + 3) lo st S) : AW l G M d F bc bs pc lo (.int y :: .int x :: st) S := by
  intro p e s m args below meth c H locs cells slots mc ms ls hC hH hS h1 h2 hl
  exact lv_icmp_lt hC.1 hC.2.1 hd ht (fun q => kt q p e s m args below meth c H locs cells slots mc ms ls hC hH hS h1 h2 hl) (fun q => kf q p e s m args below meth c H locs cells slots mc ms ls hC hH hS h1 h2 hl)
theorem A_if_ge {x : Int32} {off : Int} {tgt : Nat} (hd : decode M.2.1 pc = .ok (.ifCond .ge off, 3)) (ht : (pc : Int) + off = (tgt : Int)) (kt : 0 ≤ x → AW l G M d F bc bs tgt lo st S) (kf : ¬ 0 ≤ x → AW l G M d F bc bs (pc + 3) lo st S) : AW l G M d F bc bs pc lo (.int x :: st) S := by
  intro p e s m args below meth c H locs cells slots mc ms ls hC hH hS h1 h2 hl
  exact lv_if_ge hC.1 hC.2.1 hd ht (fun q => kt q p e s m args below meth c H locs cells slots mc ms ls hC hH hS h1 h2 hl) (fun q => kf q p e s m args below meth c H locs cells slots mc ms ls hC hH hS h1 h2 hl)
theorem A_icmp_ge {x y : Int32} {off : Int} {tgt : Nat} (hd : decode M.2.1 pc = .ok (.if_icmp .ge off, 3)) (ht : (pc : Int) + off = (tgt : Int)) (kt : y ≤ x → AW l G M d F bc bs tgt lo st S) (kf : ¬ y ≤ x → AW l G M d F bc bs (pc + 3) lo st S) : AW l G M d F bc bs pc lo (.int y :: .int x :: st) S := by
  intro p e s m args below meth c H locs cells slots mc ms ls hC hH hS h1 h2 hl
  exact lv_icmp_ge hC.1 hC.2.1 hd ht (fun q => kt q p e s m args below meth c H locs cells slots mc ms ls hC hH hS h1 h2 hl) (fun q => kf q p e s m args below meth c H locs cells slots mc ms ls hC hH hS h1 h2 hl)
theorem A_if_gt {x : Int32} {off : Int} {tgt : Nat} (hd : decode M.2.1 pc = .ok (.ifCond .gt off, 3)) (ht : (pc : Int) + off = (tgt : Int)) (kt : 0 < x → AW l G M d F bc bs tgt lo st S) (kf : ¬ 0 < x → AW l G M d F bc bs (pc + 3) lo st S) : AW l G M d F bc bs pc lo (.int x :: st) S := by
  intro p e s m args below meth c H locs cells slots mc ms ls hC hH hS h1 h2 hl
  exact lv_if_gt hC.1 hC.2.1 hd ht (fun q => kt q p e s m args below meth c H locs cells slots mc ms ls hC hH hS h1 h2 hl) (fun q => kf q p e s m args below meth c H locs cells slots mc ms ls hC hH hS h1 h2 hl)
theorem A_icmp_gt {x y : Int32} {off : Int} {tgt : Nat} (hd : decode M.2.1 pc = .ok (.if_icmp .gt off, 3)) (ht : (pc : Int) + off = (tgt : Int)) (kt : y < x → AW l G M d F bc bs tgt lo st S) (kf : ¬ y < x → AW l G M d F bc bs (pc + 3) lo st S) : AW l G M d F bc bs pc lo (.int y :: .int x :: st) S := by
  intro p e s m args below meth c H locs cells slots mc ms ls hC hH hS h1 h2 hl
  exact lv_icmp_gt hC.1 hC.2.1 hd ht (fun q => kt q p e s m args below meth c H locs cells slots mc ms ls hC hH hS h1 h2 hl) (fun q => kf q p e s m args below meth c H locs cells slots mc ms ls hC hH hS h1 h2 hl)
theorem A_if_le {x : Int32} {off : Int} {tgt : Nat} (hd : decode M.2.1 pc = .ok (.ifCond .le off, 3)) (ht : (pc : Int) + off = (tgt : Int)) (kt : x ≤ 0 → AW l G M d F bc bs tgt lo st S) (kf : ¬ x ≤ 0 → AW l G M d F bc bs (pc + 3) lo st S) : AW l G M d F bc bs pc lo (.int x :: st) S := by
  intro p e s m args below meth c H locs cells slots mc ms ls hC hH hS h1 h2 hl
  exact lv_if_le hC.1 hC.2.1 hd ht (fun q => kt q p e s m args below meth c H locs cells slots mc ms ls hC hH hS h1 h2 hl) (fun q => kf q p e s m args below meth c H locs cells slots mc ms ls hC hH hS h1 h2 hl)
theorem A_icmp_le {x y : Int32} {off : Int} {tgt : Nat} (hd : decode M.2.1 pc = .ok (.if_icmp .le off, 3)) (ht : (pc : Int) + off = (tgt : Int)) (kt : x ≤ y → AW l G M d F bc bs tgt lo st S) (kf : ¬ x ≤ y → AW l G M d F bc bs (pc + 3) lo st S) : AW l G M d F bc bs pc lo (.int y :: .int x :: st) S := by
  intro p e s m args below meth c H locs cells slots mc ms ls hC hH hS h1 h2 hl
  exact lv_icmp_le hC.1 hC.2.1 hd ht (fun q => kt q p e s m args below meth c H locs cells slots mc ms ls hC hH hS h1 h2 hl) (fun q => kf q p e s m args below meth c H locs cells slots mc ms ls hC hH hS h1 h2 hl)
theorem A_goto {off : Int} {tgt : Nat} (hd : decode M.2.1 pc = .ok (.goto off, 3)) (ht : (pc : Int) + off = (tgt : Int)) (k : AW l G M d F bc bs tgt lo st S) : AW l G M d F bc bs pc lo st S := by
  intro p e s m args below meth c H locs cells slots mc ms ls hC hH hS h1 h2 hl
  exact lv_goto hC.1 hC.2.1 hd ht (k p e s m args below meth c H locs cells slots mc ms ls hC hH hS h1 h2 hl)
theorem A_ifnonnull {x : Nat} {off : Int} {tgt : Nat} (hd : decode M.2.1 pc = .ok (.ifnonnull off, 3)) (ht : (pc : Int) + off = (tgt : Int)) (k : AW l G M d F bc bs tgt lo st S) : AW l G M d F bc bs pc lo (.ref x :: st) S := by
  intro p e s m args below meth c H locs cells slots mc ms ls hC hH hS h1 h2 hl
  exact lv_ifnonnull hC.1 hC.2.1 hd ht (k p e s m args below meth c H locs cells slots mc ms ls hC hH hS h1 h2 hl)
theorem A_ifnonnullN {off : Int} (hd : decode M.2.1 pc = .ok (.ifnonnull off, 3)) (k : AW l G M d F bc bs (pc + 3) lo st S) : AW l G M d F bc bs pc lo (.null :: st) S := by
  intro p e s m args below meth c H locs cells slots mc ms ls hC hH hS h1 h2 hl
  exact lv_ifnonnullN hC.1 hC.2.1 hd (k p e s m args below meth c H locs cells slots mc ms ls hC hH hS h1 h2 hl)
theorem A_tableOut {dflt lo9 hi9 : Int} {offs : Array Int} {len tgt : Nat} {x : Int32} (hd : decode M.2.1 pc = .ok (.tableswitch dflt lo9 hi9 offs, len)) (h : x.toInt < lo9 ∨ hi9 < x.toInt) (ht : (pc : Int) + dflt = (tgt : Int)) (k : AW l G M d F bc bs tgt lo st S) : AW l G M d F bc bs pc lo (.int x :: st) S := by
  intro p e s m args below meth c H locs cells slots mc ms ls hC hH hS h1 h2 hl
  exact lv_tableOut hC.1 hC.2.1 hd h ht (k p e s m args below meth c H locs cells slots mc ms ls hC hH hS h1 h2 hl)
theorem A_tableIn {dflt lo9 hi9 off : Int} {offs : Array Int} {len tgt : Nat} {x : Int32} (hd : decode M.2.1 pc = .ok (.tableswitch dflt lo9 hi9 offs, len)) (ha : ¬ x.toInt < lo9) (hb : ¬ hi9 < x.toInt) (ho : offs[(x.toInt - lo9).toNat]? = some off) (ht : (pc : Int) + off = (tgt : Int)) (k : AW l G M d F bc bs tgt lo st S) : AW l G M d F bc bs pc lo (.int x :: st) S := by
  intro p e s m args below meth c H locs cells slots mc ms ls hC hH hS h1 h2 hl
  exact lv_tableIn hC.1 hC.2.1 hd ha hb ho ht (k p e s m args below meth c H locs cells slots mc ms ls hC hH hS h1 h2 hl)
end AzRows
