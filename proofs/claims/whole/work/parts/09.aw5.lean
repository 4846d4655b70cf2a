/-! contracts, calls, returns -/
def az_Q (G : az_Gh) (Post : Option Value → az_St → Prop) : Array Value → State → Outcome → State → Prop := fun _ st oc t => (∃ r S', oc = .returned (Option.map (az_cv G) r) ∧ Post r S' ∧ az_hp G S' t.heap) ∧ va_F (az_A G) st t
def az_F (G : az_Gh) (Post : Option Value → az_St → Prop) : az_Fn := fun below args s mc ms => MQ below (az_Q G Post) args s mc ms (az_A G)
def az_Pc (G : az_Gh) (as : List Value) (S : az_St) : Array Value → State → Prop := va_Pc (as.map (az_cv G)) (fun U => az_amb G U ∧ az_hp G S U.heap)
def AM (l : Launch) (G : az_Gh) (d : Nat) (M : az_Md) (as : List Value) (S : az_St) (mc ms : Nat) (Post : Option Value → az_St → Prop) : Prop :=
  Met l M.1 (az_ws M) (az_rm d mc ms) (az_Pc G as S) (az_Q G Post) mc ms (az_A G)
/-- a contract that names its answer and what is behind it -/
def FM (l : Launch) (G : az_Gh) (d : Nat) (M : az_Md) (as : List Value) (S : az_St) (r : Option Value) (S' : az_St) : Prop := AM l G d M as S 0 0 (fun r1 S1 => r1 = r ∧ S1 = S')
theorem az_blind (G : az_Gh) (as : List Value) (S : az_St) : FrameBlind (az_Pc G as S) := by
  intro a U g mk h
  obtain ⟨h0, h1, h2⟩ := h
  exact ⟨h0, h1.same (u := U) (U := U.calling g mk a) rfl rfl, h2⟩
/-- what the tables say of a method -/
def az_kn (M : az_Md) : Prop := Cond.code M.1 M.2.1 M.2.2.1 M.2.2.2 ∈ az_tb ∧ plainFor M.1 = true ∧ (M.1.cls ≠ "java/lang/invoke/MethodHandle" ∧ M.1.cls ≠ "java/lang/invoke/VarHandle") ∧ Cond.initialized M.1.cls ∈ az_tb ∧ M.2.2.1 ≤ 22
def az_kv (M : az_Md) : Prop := az_kn M ∧ Cond.instanceMethod M.1 ∈ az_tb ∧ Cond.selects M.1.cls M.1 M.1 ∈ az_tb
def az_ks (M : az_Md) : Prop := az_kn M ∧ Cond.static M.1 ∈ az_tb
def az_ki (M : az_Md) : Prop := az_kn M ∧ Cond.instanceMethod M.1 ∈ az_tb ∧ M.1.name = "<init>" ∧ M.2.2.2 = none
theorem az_goodIn {M : az_Md} (h : az_kn M) : GoodIn az_tb (az_ws M) := by
  intro w hw
  rcases List.mem_cons.mp hw with rfl | hw
  · exact ⟨h.1, good_of_word (az_tb_good h.1)⟩
  · exact ⟨hw, good_of_word (az_tb_good hw)⟩
theorem az_goodIn1 {M : az_Md} (h : az_kn M) {ws : List Cond} (hws : ∀ w ∈ ws, w ∈ az_tb) : GoodIn az_tb (ws ++ az_ws M) := by
  intro w hw
  rcases List.mem_append.mp hw with hw | hw
  · exact ⟨hws w hw, good_of_word (az_tb_good (hws w hw))⟩
  · exact az_goodIn h w hw
def az_en (n : Nat) (as : List Value) : List (Option Value) := let l := as.flatMap (fun v => if v.category = 2 then [some v, none] else [some v]); l ++ List.replicate (n - l.length) none
theorem az_en_in (G : az_Gh) : ∀ (as : List Value) (i j : Nat) (v : Value), (as.flatMap (fun v => if v.category = 2 then [some v, none] else [some v]))[j]? = some (some v) → (i + j, az_cv G v) ∈ lv_args i (as.map (az_cv G))
  | [], i, j, v, h => by simp at h
  | a :: as, i, j, v, h => by
    rw [List.flatMap_cons] at h
    rw [List.map_cons]
    unfold lv_args
    rw [az_cat]
    by_cases hc : a.category = 2
    · rw [if_pos hc] at h ⊢
      match j, h with
      | 0, h =>
        have h : some a = some v := Option.some.inj h
        cases h
        exact List.mem_cons_self
      | 1, h => cases h
      | j + 2, h =>
        have := az_en_in G as (i + 2) j v h
        rw [show i + (j + 2) = i + 2 + j by omega]
        exact List.mem_cons_of_mem _ this
    · rw [if_neg hc] at h ⊢
      match j, h with
      | 0, h =>
        have h : some a = some v := Option.some.inj h
        cases h
        exact List.mem_cons_self
      | j + 1, h =>
        have := az_en_in G as (i + 1) j v h
        rw [show i + (j + 1) = i + 1 + j by omega]
        exact List.mem_cons_of_mem _ this
theorem az_en_lo {G : az_Gh} {n : Nat} {as : List Value} (hle : (lg_sl (as.map (az_cv G))).length ≤ n) : az_lo G n (az_en n as) ((lg_sl (as.map (az_cv G)) ++ List.replicate (n - (lg_sl (as.map (az_cv G))).length) Slot.unset).toArray) := by
  have h := lv_entry (as.map (az_cv G)) hle
  refine ⟨h.1, h.2.1, fun i v hi => ?_⟩
  unfold az_en at hi
  by_cases hl : i < (as.flatMap (fun v => if v.category = 2 then [some v, none] else [some v])).length
  · rw [List.getElem?_append_left hl] at hi
    have := az_en_in G as 0 i v hi
    rw [Nat.zero_add] at this
    exact h.2.2 _ this
  · rw [List.getElem?_append_right (by omega), List.getElem?_replicate] at hi
    split at hi
    · cases hi
    · cases hi
theorem az_enter {l : Launch} {G : az_Gh} {d : Nat} {M : az_Md} {as : List Value} {S : az_St} {mc ms : Nat} {Post : Option Value → az_St → Prop} (hk : az_kn M) (hle : (lg_sl (as.map (az_cv G))).length ≤ M.2.2.1) {lo : List (Option Value)} (hlo : az_en M.2.2.1 as = lo) (kk : AW l G M d (az_F G Post) mc ms 0 lo [] S) : AM l G d M as S mc ms Post := by
  subst hlo
  refine va_MetF (cc := M.2.1) (maxL := M.2.2.1) (ret := M.2.2.2) hk.2.1 rfl ?_
  intro p e s m args below meth c s₁ B hml hv
  obtain ⟨rfl, ham, hH⟩ := hv
  have hts := atoms_spec (ws := az_ws M) B.pre
  have hown : s.vm.findClass M.1.cls = some m.cls := findClass_of_methodNamed B.named
  have hnm : meth.name = M.1.name := (name_of_methodNamed B.named B.method).1
  rw [lg_entry_eq]
  exact kk p e s m _ below meth c s.heap [] 0 0 mc ms _ ⟨B.exec, B.bytes, hml, B.returns, hown, fun w hw => hts w (List.mem_cons_of_mem _ hw), B.notSynchronized, ham, hnm⟩ hH va_S.rf (by omega) (by omega) (az_en_lo hle)
section AzRows4
variable {l : Launch} {G : az_Gh} {M : az_Md} {d : Nat} {F : az_Fn} {Post : Option Value → az_St → Prop} {bc bs pc : Nat} {lo : List (Option Value)} {st : List Value} {S : az_St}
theorem A_iret {v : Int32} (hd : decode M.2.1 pc = .ok (.ireturn, 1)) (hrt : M.2.2.2 = some .int) (hP : Post (some (.int v)) S) : AW l G M d (az_F G Post) bc bs pc lo [.int v] S := by
  intro p e s m args below meth c H locs cells slots mc ms ls hC hH hS h1 h2 hl
  obtain ⟨hx, hb, hml, hr, hown, hts, hlk, ham, hnm⟩ := id hC
  refine W.widen (k := mc) (n := ms) (by omega) (by omega) ?_
  exact W.iret (v := v) hx hb (hr.trans hrt) (fun t ht hW => ⟨⟨some (.int v), S, rfl, hP, by rw [ht]; exact hH⟩, hS.F ht⟩) hS.2.2 hd hlk
theorem A_zret {v : Int32} {ty : FieldType} (hd : decode M.2.1 pc = .ok (.ireturn, 1)) (hrt : M.2.2.2 = some ty) (hn : narrow ty (.int v) = .int v) (hP : Post (some (.int v)) S) : AW l G M d (az_F G Post) bc bs pc lo [.int v] S := by
  intro p e s m args below meth c H locs cells slots mc ms ls hC hH hS h1 h2 hl
  obtain ⟨hx, hb, hml, hr, hown, hts, hlk, ham, hnm⟩ := id hC
  refine W.widen (k := mc) (n := ms) (by omega) (by omega) ?_
  exact W.zret (v := v) hx hb (hr.trans hrt) hn (fun t ht hW => ⟨⟨some (.int v), S, rfl, hP, by rw [ht]; exact hH⟩, hS.F ht⟩) hS.2.2 hd hlk
theorem A_lret {v : Int64} (hd : decode M.2.1 pc = .ok (.lreturn, 1)) (hrt : M.2.2.2 = some .long) (hP : Post (some (.long v)) S) : AW l G M d (az_F G Post) bc bs pc lo [.long v] S := by
  intro p e s m args below meth c H locs cells slots mc ms ls hC hH hS h1 h2 hl
  obtain ⟨hx, hb, hml, hr, hown, hts, hlk, ham, hnm⟩ := id hC
  refine W.widen (k := mc) (n := ms) (by omega) (by omega) ?_
  exact W.lret (v := v) hx hb (hr.trans hrt) (fun t ht hW => ⟨⟨some (.long v), S, rfl, hP, by rw [ht]; exact hH⟩, hS.F ht⟩) hS.2.2 hd hlk
theorem A_aret {v : Nat} {n : String} (hd : decode M.2.1 pc = .ok (.areturn, 1)) (hrt : M.2.2.2 = some (.object n)) (hP : Post (some (.ref v)) S) : AW l G M d (az_F G Post) bc bs pc lo [.ref v] S := by
  intro p e s m args below meth c H locs cells slots mc ms ls hC hH hS h1 h2 hl
  obtain ⟨hx, hb, hml, hr, hown, hts, hlk, ham, hnm⟩ := id hC
  refine W.widen (k := mc) (n := ms) (by omega) (by omega) ?_
  exact W.aret (v := .ref (az_ad G v)) hx hb (hr.trans hrt) (Or.inl ⟨n, rfl⟩) (Or.inr ⟨_, rfl⟩) (fun t ht hW => ⟨⟨some (.ref v), S, rfl, hP, by rw [ht]; exact hH⟩, hS.F ht⟩) hS.2.2 hd hlk
theorem A_vret (hd : decode M.2.1 pc = .ok (.return_, 1)) (hrt : M.2.2.2 = none) (hP : Post none S) : AW l G M d (az_F G Post) bc bs pc lo [] S := by
  intro p e s m args below meth c H locs cells slots mc ms ls hC hH hS h1 h2 hl
  obtain ⟨hx, hb, hml, hr, hown, hts, hlk, ham, hnm⟩ := id hC
  refine W.widen (k := mc) (n := ms) (by omega) (by omega) ?_
  exact W.vret hx hb (hr.trans hrt) (fun t ht hW => ⟨⟨none, S, rfl, hP, by rw [ht]; exact hH⟩, hS.F ht⟩) hS.2.2 hd hlk
end AzRows4
section AzCall
variable {p : Program} {l : Launch} {e : Env} {R : Room} {s : State} {m : MethodId} {args : Array Value} {below : List Frame} {meth : Method} {c : Code} {H : Heap} {locs : List Loc} {cells slots : Nat} {Q : State → Prop}
theorem az_callk {G : az_Gh} {Post : Option Value → az_St → Prop} {H0 : Heap} {mc ms pc : Nat} {ls : Array Slot} {st0 rest : List Value} {a : Array Value} (hr : va_Run p l e R s m args below meth c H locs cells slots mc ms (F0 m pc ls st0) rest (az_Q G Post a) (az_A G)) (hS : va_S (az_A G) H0 H locs)
    (kk : ∀ (r : Option Value) (S' : az_St) (H1 : Heap) (locs1 : List Loc), Post r S' → az_hp G S' H1 → va_S (az_A G) H0 H1 locs1 → W p l e R s m args below meth c H1 locs1 (cells + mc) (slots + ms) Q (F0 m (pc + 3) ls ((Option.map (az_cv G) r).toList ++ rest))) : W p l e R s m args below meth c H locs cells slots Q (F0 m pc ls st0) := by
  intro T hT X
  obtain ⟨v, st₀, t, T', L, h0, X', hL, e1, e2, ⟨⟨r, S', hv, hp, hb⟩, hz, hk⟩, st⟩ := hr T hT X
  cases hv
  rw [h0] at hz hk
  obtain ⟨t2, a1, b1⟩ := kk r S' T'.heap (locs ++ L) hp (by rw [e1]; exact hb)
    ⟨Nat.le_trans hS.1 (by rw [e1]; exact hz), fun q h1 h2 => by rw [e1, hk q (Nat.lt_of_lt_of_le h1 hS.1) h2]; exact hS.2.1 q h1 h2, fun q hq => by
      rcases List.mem_append.mp hq with h | h
      · exact hS.2.2 q h
      · exact hL q h⟩ T' rfl X'
  exact ⟨t2, st t2 a1, b1⟩
end AzCall
/-- who is called is there, of his class -/
def az_rc (G : az_Gh) (S : az_St) (C : String) (k : Nat) : Prop := ∀ (s : State) (H : Heap) (locs : List Loc), az_amb G s → az_hp G S H → va_S (az_A G) s.heap H locs → ∃ cell : Cell, H[az_ad G k]? = some cell ∧ cell.vm.isStatics = false ∧ s.vm.findClass C = some cell.cls
theorem az_rc_obj {G : az_Gh} {S : az_St} {k ci z N : Nat} {C : String} {T : u_T} {ty0 : Nat → FieldType} {fs : List (Option (Option Nat))} (hcl : az_cl ci C T N ty0) (hs : S.1[k]? = some (ci, z, fs)) : az_rc G S C k := by
  intro s H locs ham hH hS
  have he := az_wl_at (G := G) hs
  rw [az_ce_obj hcl.2.1] at he
  rw [az_ad_lt (Nat.lt_of_lt_of_le (az_len hs) hH.2.1)]
  exact va_recv ham.2.1 hH.2.2 hcl.1 he
theorem az_rc_str {G : az_Gh} {S : az_St} {i : Nat} (hi : i < 7) : az_rc G S "java/lang/String" (2000 + i) := by
  intro s H locs ham hH hS
  rw [show az_ad G (2000 + i) = G.2.1 (2000 + i) from if_neg (by omega)]
  exact vk_recv (adK := fun i => G.2.1 (2000 + i)) ham.2.2.2.2.1 hi hS
section AzRows5
variable {l : Launch} {G : az_Gh} {M : az_Md} {d : Nat} {F : az_Fn} {bc bs pc : Nat} {lo : List (Option Value)} {st : List Value} {S : az_St}
theorem az_pre {G : az_Gh} {S : az_St} {s : State} {H : Heap} {locs : List Loc} {as : List Value} (ham : az_amb G s) (hH : az_hp G S H) (hS : va_S (az_A G) s.heap H locs) : ∀ U : State, U.heap = H → s.WarmedH U.vm → az_Pc G as S (as.map (az_cv G)).toArray U := by
  intro U hU hW
  refine ⟨rfl, ham.warm hW (by rw [hU]; exact hS.1) (fun q h1 h2 => by rw [hU]; exact hS.2.1 q h1 h2), by rw [hU]; exact hH⟩
theorem az_mapcat (G : az_Gh) (st : List Value) : ((st.map (az_cv G)).map fun v => v.category) = st.map fun v => v.category := by
  rw [List.map_map]
  exact List.map_congr_left (fun v _ => az_cat G v)
theorem az_lol (r : Option Value) (G : az_Gh) (st : List Value) : (Option.map (az_cv G) r).toList ++ st.map (az_cv G) = (r.toList ++ st).map (az_cv G) := by cases r <;> rfl
theorem A_callV {M' : az_Md} {idx n d' k bc2 bs2 mc' ms' : Nat} {as stk : List Value} {Post' : Option Value → az_St → Prop} (hd : decode M.2.1 pc = .ok (.invokevirtual idx, 3)) (hk : az_kv M') (hw : Cond.methodLink M.1.cls idx M'.1 ∈ az_tb) (hn : (parseMethodDescriptor M'.1.desc).map (fun q => q.parameters.length) = some as.length) (hrc : az_rc G S M'.1.cls k)
    (hm : AM l G d' M' (.ref k :: as) S mc' ms' Post') (hdd : d' + 1 ≤ d) (hb1 : bc2 + mc' ≤ bc) (hb2 : bs2 + ms' ≤ bs) (hst : as.reverse ++ .ref k :: st = stk) (hcat : (st.map fun v => v.category).sum ≤ 8)
    (kk : ∀ r S', Post' r S' → AW l G M d F bc2 bs2 (pc + 3) lo (r.toList ++ st) S') : AW l G M d F bc bs pc lo stk S := by
  subst hst
  intro p e s m args below meth c H locs cells slots mc ms ls hC hH hS h1 h2 hl
  obtain ⟨hx, hb, hml, hr, hown, hts, hlk, ham, hnm⟩ := id hC
  obtain ⟨hkn, hin, hse⟩ := hk
  refine az_callk (G := G) (Post := Post') (rest := st.map (az_cv G)) (va_runV (cc := M.2.1) (nL := M.2.2.1) (Ts := az_tb) (own := M.1.cls) (C := M'.1.cls) (b := az_ad G k) (As := as.map (az_cv G)) ⟨hx, hb, hml, hown, hts⟩ hm (cwV as.length hts (az_goodIn1 hkn (ws := [.methodLink M.1.cls idx M'.1, .instanceMethod M'.1, .selects M'.1.cls M'.1 M'.1, .initialized M'.1.cls]) (by
      intro w hw9
      simp only [List.mem_cons, List.not_mem_nil, or_false] at hw9
      rcases hw9 with rfl | rfl | rfl | rfl
      · exact hw
      · exact hin
      · exact hse
      · exact hkn.2.2.2.1)) rfl rfl rfl ⟨rfl, hkn.2.2.1.1, hkn.2.2.1.2, hn⟩ ⟨by show d' + 1 ≤ d; omega, by show 8 + (M'.2.2.1 + 11) + (41 * d' + 32) ≤ 41 * d + 32; have := hkn.2.2.2.2; omega⟩) ⟨az_blind G _ S, hrc s H locs ham hH hS, az_pre ham hH hS⟩ rfl (by simp) hl.1 (by simp; rfl) (lv_room (by rw [az_mapcat]; exact hcat)) hd ⟨by show _ ≤ mc; omega, by show _ ≤ ms; omega⟩) hS (fun r S' H1 locs1 hp hH1 hS1 => ?_)
  rw [az_lol]
  exact kk r S' hp p e s m args below meth c H1 locs1 (cells + mc') (slots + ms') mc ms ls hC hH1 hS1 (by omega) (by omega) hl
/-- a link to a static method of one's own, of another class, or of a nest mate -/
def az_sl (own : String) (idx : Nat) (y : MethodName) : Prop := Cond.methodLink own idx y ∈ az_tb ∨ ∃ host, Cond.methodLinkNest own idx y host ∈ az_nest
theorem A_callS {M' : az_Md} {idx n d' bc2 bs2 mc' ms' : Nat} {as stk : List Value} {Post' : Option Value → az_St → Prop} (hd : decode M.2.1 pc = .ok (.invokestatic idx, 3)) (hk : az_ks M') (hw : az_sl M.1.cls idx M'.1) (hn : (parseMethodDescriptor M'.1.desc).map (fun q => q.parameters.length) = some as.length)
    (hm : AM l G d' M' as S mc' ms' Post') (hdd : d' + 1 ≤ d) (hb1 : bc2 + mc' ≤ bc) (hb2 : bs2 + ms' ≤ bs) (hst : as.reverse ++ st = stk) (hcat : (st.map fun v => v.category).sum ≤ 8)
    (kk : ∀ r S', Post' r S' → AW l G M d F bc2 bs2 (pc + 3) lo (r.toList ++ st) S') : AW l G M d F bc bs pc lo stk S := by
  subst hst
  intro p e s m args below meth c H locs cells slots mc ms ls hC hH hS h1 h2 hl
  obtain ⟨hx, hb, hml, hr, hown, hts, hlk, ham, hnm⟩ := id hC
  obtain ⟨hkn, hsa⟩ := hk
  have hR : (az_rm d' mc' ms').frames + 1 ≤ (az_rm d mc ms).frames ∧ 8 + (M'.2.2.1 + 11) + (az_rm d' mc' ms').locals ≤ (az_rm d mc ms).locals := ⟨by show d' + 1 ≤ d; omega, by show 8 + (M'.2.2.1 + 11) + (41 * d' + 32) ≤ 41 * d + 32; have := hkn.2.2.2.2; omega⟩
  have hrun : va_Run p l e (az_rm d mc ms) s m args below meth c H locs cells slots mc' ms' (F0 m pc ls ((as.reverse ++ st).map (az_cv G))) (st.map (az_cv G)) (az_Q G Post' (as.map (az_cv G)).toArray) (az_A G) := by
    rcases hw with hw | ⟨host, hw⟩
    · exact va_runS (cc := M.2.1) (nL := M.2.2.1) (Ts := az_tb) (own := M.1.cls) (As := as.map (az_cv G)) ⟨hx, hb, hml, hown, hts⟩ hm (va_cwS as.length hts (az_goodIn1 hkn (ws := [.methodLink M.1.cls idx M'.1, .static M'.1, .initialized M'.1.cls]) (by
        intro w hw9
        simp only [List.mem_cons, List.not_mem_nil, or_false] at hw9
        rcases hw9 with rfl | rfl | rfl
        · exact hw
        · exact hsa
        · exact hkn.2.2.2.1)) rfl rfl rfl ⟨hkn.2.2.1.1, hkn.2.2.1.2, hn⟩ hR) ⟨az_blind G _ S, az_pre ham hH hS⟩ rfl (by simp) hl.1 (by simp) (lv_room (by rw [az_mapcat]; exact hcat)) hd ⟨by show _ ≤ mc; omega, by show _ ≤ ms; omega⟩
    · exact va_runSN (cc := M.2.1) (nL := M.2.2.1) (Ts := az_tb) (own := M.1.cls) (host := host) (As := as.map (az_cv G)) ⟨hx, hb, hml, hown, hts⟩ hm ⟨va_cnB as.length hts (az_goodIn hkn) rfl rfl rfl (ham.2.2.1 _ hw) (hts _ hkn.2.2.2.1) ⟨hkn.2.2.1.1, hkn.2.2.1.2, hn⟩ hR, hts _ hsa, trivial⟩ ⟨az_blind G _ S, az_pre ham hH hS⟩ rfl (by simp) hl.1 (by simp) (lv_room (by rw [az_mapcat]; exact hcat)) hd ⟨by show _ ≤ mc; omega, by show _ ≤ ms; omega⟩
  refine az_callk (G := G) (Post := Post') hrun hS (fun r S' H1 locs1 hp hH1 hS1 => ?_)
  rw [az_lol]
  exact kk r S' hp p e s m args below meth c H1 locs1 (cells + mc') (slots + ms') mc ms ls hC hH1 hS1 (by omega) (by omega) hl
theorem A_callI {M' : az_Md} {idx n d' k bc2 bs2 mc' ms' : Nat} {as stk : List Value} {Post' : Option Value → az_St → Prop} (hd : decode M.2.1 pc = .ok (.invokespecial idx, 3)) (hk : az_ki M') (hw : az_sl M.1.cls idx M'.1) (hn : (parseMethodDescriptor M'.1.desc).map (fun q => q.parameters.length) = some as.length)
    (hm : AM l G d' M' (.ref k :: as) S mc' ms' Post') (hdd : d' + 1 ≤ d) (hb1 : bc2 + mc' ≤ bc) (hb2 : bs2 + ms' ≤ bs) (hst : as.reverse ++ .ref k :: st = stk) (hcat : (st.map fun v => v.category).sum ≤ 8)
    (kk : ∀ r S', Post' r S' → AW l G M d F bc2 bs2 (pc + 3) lo (r.toList ++ st) S') : AW l G M d F bc bs pc lo stk S := by
  subst hst
  intro p e s m args below meth c H locs cells slots mc ms ls hC hH hS h1 h2 hl
  obtain ⟨hx, hb, hml, hr, hown, hts, hlk, ham, hnm⟩ := id hC
  obtain ⟨hkn, hin, hna, hno⟩ := hk
  have hR : (az_rm d' mc' ms').frames + 1 ≤ (az_rm d mc ms).frames ∧ 8 + (M'.2.2.1 + 11) + (az_rm d' mc' ms').locals ≤ (az_rm d mc ms).locals := ⟨by show d' + 1 ≤ d; omega, by show 8 + (M'.2.2.1 + 11) + (41 * d' + 32) ≤ 41 * d + 32; have := hkn.2.2.2.2; omega⟩
  have hws : az_ws M' = Cond.code M'.1 M'.2.1 M'.2.2.1 none :: az_tb := by unfold az_ws; rw [hno]
  have hrun : va_Run p l e (az_rm d mc ms) s m args below meth c H locs cells slots mc' ms' (F0 m pc ls ((as.reverse ++ .ref k :: st).map (az_cv G))) (st.map (az_cv G)) (az_Q G Post' ((.ref k :: as).map (az_cv G)).toArray) (az_A G) := by
    rcases hw with hw | ⟨host, hw⟩
    · exact va_runI (cc := M.2.1) (nL := M.2.2.1) (Ts := az_tb) (own := M.1.cls) (b := az_ad G k) (As := as.map (az_cv G)) ⟨hx, hb, hml, hown, hts⟩ hm (cwI as.length hts (az_goodIn hkn) hws rfl rfl (hts _ hkn.2.2.2.1) (hts _ hw) (hts _ hin) hna ⟨hkn.2.2.1.1, hkn.2.2.1.2, hn⟩ hR) ⟨az_blind G _ S, az_pre ham hH hS⟩ rfl (by simp) hl.1 (by simp; rfl) (lv_room (by rw [az_mapcat]; exact hcat)) hd ⟨by show _ ≤ mc; omega, by show _ ≤ ms; omega⟩
    · exact va_runIN (cc := M.2.1) (nL := M.2.2.1) (Ts := az_tb) (own := M.1.cls) (host := host) (b := az_ad G k) (As := as.map (az_cv G)) ⟨hx, hb, hml, hown, hts⟩ hm ⟨va_cnB as.length hts (az_goodIn hkn) hws rfl rfl (ham.2.2.1 _ hw) (hts _ hkn.2.2.2.1) ⟨hkn.2.2.1.1, hkn.2.2.1.2, hn⟩ hR, hna, hts _ hin⟩ ⟨az_blind G _ S, az_pre ham hH hS⟩ rfl (by simp) hl.1 (by simp; rfl) (lv_room (by rw [az_mapcat]; exact hcat)) hd ⟨by show _ ≤ mc; omega, by show _ ≤ ms; omega⟩
  refine az_callk (G := G) (Post := Post') hrun hS (fun r S' H1 locs1 hp hH1 hS1 => ?_)
  rw [az_lol]
  exact kk r S' hp p e s m args below meth c H1 locs1 (cells + mc') (slots + ms') mc ms ls hC hH1 hS1 (by omega) (by omega) hl
theorem A_oinit {k idx : Nat} (hd : decode M.2.1 pc = .ok (.invokespecial idx, 3)) (hw : Cond.methodLink M.1.cls idx Lib.objectInit ∈ az_tb) (hw2 : Cond.instanceMethod Lib.objectInit ∈ az_tb) (hw3 : Cond.code Lib.objectInit ⟨#[0xb1]⟩ 1 none ∈ az_tb) (hdd : 1 ≤ d) (hcat : (st.map fun v => v.category).sum ≤ 8) (kk : AW l G M d F bc bs (pc + 3) lo st S) : AW l G M d F bc bs pc lo (.ref k :: st) S := by
  intro p e s m args below meth c H locs cells slots mc ms ls hC hH hS h1 h2 hl
  obtain ⟨hx, hb, hml, hr, hown, hts, hlk, ham, hnm⟩ := id hC
  exact W.objInit hx hb hown (hts _ hw) (hts _ hw2) (hts _ hw3) rfl (by rw [hml]; exact hl.1) rfl hd (by show 1 ≤ d; omega) (by show 2 * 0 + _ + 12 ≤ 41 * d + 32; rw [az_mapcat]; omega) (kk p e s m args below meth c H locs cells slots mc ms ls hC hH hS h1 h2 hl)
theorem A_max {x y : Int32} {idx : Nat} (hd : decode M.2.1 pc = .ok (.invokestatic idx, 3)) (hw : Cond.methodLink M.1.cls idx Lib.Math.max.name ∈ az_tb) (hw2 : Cond.static Lib.Math.max.name ∈ az_tb) (hw3 : Cond.initialized "java/lang/Math" ∈ az_tb) (hw4 : Cond.code Lib.Math.max.name Lib.Math.max.code 2 (some .int) ∈ az_tb) (hdd : 1 ≤ d) (hcat : (st.map fun v => v.category).sum ≤ 8) (kk : AW l G M d F bc bs (pc + 3) lo (.int (if x < y then y else x) :: st) S) : AW l G M d F bc bs pc lo (.int y :: .int x :: st) S := by
  intro p e s m args below meth c H locs cells slots mc ms ls hC hH hS h1 h2 hl
  obtain ⟨hx, hb, hml, hr, hown, hts, hlk, ham, hnm⟩ := id hC
  exact va_mmax hx hb (by rw [hml]; exact hl.1.symm) hown (hts _ hw) (hts _ hw2) (hts _ hw3) (hts _ hw4) (by show 1 ≤ d; omega) (by show _ + 13 ≤ 41 * d + 32; rw [az_mapcat]; omega) (by show cells ≤ mc; omega) (by show slots ≤ ms; omega) hd (kk p e s m args below meth c H locs cells slots mc ms ls hC hH hS h1 h2 hl)
theorem A_min {x y : Int32} {idx : Nat} (hd : decode M.2.1 pc = .ok (.invokestatic idx, 3)) (hw : Cond.methodLink M.1.cls idx Lib.Math.min.name ∈ az_tb) (hw2 : Cond.static Lib.Math.min.name ∈ az_tb) (hw3 : Cond.initialized "java/lang/Math" ∈ az_tb) (hw4 : Cond.code Lib.Math.min.name Lib.Math.min.code 2 (some .int) ∈ az_tb) (hdd : 1 ≤ d) (hcat : (st.map fun v => v.category).sum ≤ 8) (kk : AW l G M d F bc bs (pc + 3) lo (.int (if y < x then y else x) :: st) S) : AW l G M d F bc bs pc lo (.int y :: .int x :: st) S := by
  intro p e s m args below meth c H locs cells slots mc ms ls hC hH hS h1 h2 hl
  obtain ⟨hx, hb, hml, hr, hown, hts, hlk, ham, hnm⟩ := id hC
  exact va_mmin hx hb (by rw [hml]; exact hl.1.symm) hown (hts _ hw) (hts _ hw2) (hts _ hw3) (hts _ hw4) (by show 1 ≤ d; omega) (by show _ + 13 ≤ 41 * d + 32; rw [az_mapcat]; omega) (by show cells ≤ mc; omega) (by show slots ≤ ms; omega) hd (kk p e s m args below meth c H locs cells slots mc ms ls hC hH hS h1 h2 hl)
theorem A_copyI {k k2 n0 n1 sp dp n idx : Nat} {xs xd xn : Int32} {f0 f1 : List (Option (Option Nat))} (hd : decode M.2.1 pc = .ok (.invokestatic idx, 3)) (hw : Cond.methodLink M.1.cls idx arraycopyName ∈ az_tb) (hw2 : Cond.native arraycopyName ∈ az_tb) (hw3 : Cond.static arraycopyName ∈ az_tb) (hw4 : Cond.initialized "java/lang/System" ∈ az_tb) (hs : S.1[k]? = some (100, n0, f0)) (hs2 : S.1[k2]? = some (100, n1, f1)) (es : xs = nI sp) (ed : xd = nI dp) (en : xn = nI n) (h4 : sp + n ≤ n0) (h5 : dp + n ≤ n1) (b1 : n0 < 2 ^ 31) (b2 : n1 < 2 ^ 31) (hdd : 2 ≤ d) (hcat : (st.map fun v => v.category).sum ≤ 8)
    (kk : AW l G M d F bc bs (pc + 3) lo st (S.1, va_up S.2.1 k2 (va_cpy (S.2.1 k) (S.2.1 k2) sp dp n), S.2.2)) : AW l G M d F bc bs pc lo (.int xn :: .int xd :: .ref k2 :: .int xs :: .ref k :: st) S := by
  intro p e s m args below meth c H locs cells slots mc ms ls hC hH hS h1 h2 hl
  obtain ⟨hx, hb, hml, hr, hown, hts, hlk, ham, hnm⟩ := id hC
  subst es; subst ed; subst en
  have he := az_wl_at (G := G) hs
  rw [az_ce_int] at he
  have he2 := az_wl_at (G := G) hs2
  rw [az_ce_int] at he2
  have hk9 : az_ad G k = G.1 + k := az_ad_lt (Nat.lt_of_lt_of_le (az_len hs) hH.2.1)
  have hk8 : az_ad G k2 = G.1 + k2 := az_ad_lt (Nat.lt_of_lt_of_le (az_len hs2) hH.2.1)
  show W p l e _ s m args below meth c H locs cells slots _ (F0 m pc ls (.int (nI n) :: .int (nI dp) :: .ref (az_ad G k2) :: .int (nI sp) :: .ref (az_ad G k) :: st.map (az_cv G)))
  rw [hk9, hk8]
  refine az_copyi hx hb (by rw [hml]; exact hl.1.symm) hown (hts _ hw) (hts _ hw2) (hts _ hw3) (hts _ hw4) ham.2.1 hH.2.2 (az_wl_D G S) hS k k2 0 he he2 rfl h4 h5 b1 b2 (by show 1 ≤ d; omega) ?_ hd (fun H1 locs1 hP hz hS1 => kk p e s m args below meth c H1 locs1 cells slots mc ms ls hC ?_ hS1 h1 h2 hl)
  · show _ + (nativeFrameWords "java/lang/System" "arraycopy" 5 + 11) ≤ 41 * d + 32
    rw [az_mapcat]
    have : nativeFrameWords "java/lang/System" "arraycopy" 5 ≤ 60 := by decide +kernel
    omega
  · exact az_hp_set hH (az_set_self hs2).symm (fun i9 q hi => az_ce_ne (S := S) (S' := (S.1, va_up S.2.1 k2 (va_cpy (S.2.1 k) (S.2.1 k2) sp dp n), S.2.2)) (az_up_ne hi) rfl q) (by rw [az_ce_int]; show Sum.inl (_, n1, Sum.inl (va_up S.2.1 k2 _ k2)) = _; rw [az_up_self]) hz hP
theorem A_copyL {k k2 n0 n1 sp dp n idx : Nat} {xs xd xn : Int32} {f0 f1 : List (Option (Option Nat))} (hd : decode M.2.1 pc = .ok (.invokestatic idx, 3)) (hw : Cond.methodLink M.1.cls idx arraycopyName ∈ az_tb) (hw2 : Cond.native arraycopyName ∈ az_tb) (hw3 : Cond.static arraycopyName ∈ az_tb) (hw4 : Cond.initialized "java/lang/System" ∈ az_tb) (hs : S.1[k]? = some (101, n0, f0)) (hs2 : S.1[k2]? = some (101, n1, f1)) (es : xs = nI sp) (ed : xd = nI dp) (en : xn = nI n) (h4 : sp + n ≤ n0) (h5 : dp + n ≤ n1) (b1 : n0 < 2 ^ 31) (b2 : n1 < 2 ^ 31) (hdd : 2 ≤ d) (hcat : (st.map fun v => v.category).sum ≤ 8)
    (kk : AW l G M d F bc bs (pc + 3) lo st (S.1, S.2.1, va_up S.2.2 k2 (va_cpy (S.2.2 k) (S.2.2 k2) sp dp n))) : AW l G M d F bc bs pc lo (.int xn :: .int xd :: .ref k2 :: .int xs :: .ref k :: st) S := by
  intro p e s m args below meth c H locs cells slots mc ms ls hC hH hS h1 h2 hl
  obtain ⟨hx, hb, hml, hr, hown, hts, hlk, ham, hnm⟩ := id hC
  subst es; subst ed; subst en
  have he := az_wl_at (G := G) hs
  rw [az_ce_long] at he
  have he2 := az_wl_at (G := G) hs2
  rw [az_ce_long] at he2
  have hk9 : az_ad G k = G.1 + k := az_ad_lt (Nat.lt_of_lt_of_le (az_len hs) hH.2.1)
  have hk8 : az_ad G k2 = G.1 + k2 := az_ad_lt (Nat.lt_of_lt_of_le (az_len hs2) hH.2.1)
  show W p l e _ s m args below meth c H locs cells slots _ (F0 m pc ls (.int (nI n) :: .int (nI dp) :: .ref (az_ad G k2) :: .int (nI sp) :: .ref (az_ad G k) :: st.map (az_cv G)))
  rw [hk9, hk8]
  refine az_copyl hx hb (by rw [hml]; exact hl.1.symm) hown (hts _ hw) (hts _ hw2) (hts _ hw3) (hts _ hw4) ham.2.1 hH.2.2 (az_wl_D G S) hS k k2 1 he he2 rfl h4 h5 b1 b2 (by show 1 ≤ d; omega) ?_ hd (fun H1 locs1 hP hz hS1 => kk p e s m args below meth c H1 locs1 cells slots mc ms ls hC ?_ hS1 h1 h2 hl)
  · show _ + (nativeFrameWords "java/lang/System" "arraycopy" 5 + 11) ≤ 41 * d + 32
    rw [az_mapcat]
    have : nativeFrameWords "java/lang/System" "arraycopy" 5 ≤ 60 := by decide +kernel
    omega
  · exact az_hp_set hH (az_set_self hs2).symm (fun i9 q hi => az_ce_ne (S := S) (S' := (S.1, S.2.1, va_up S.2.2 k2 (va_cpy (S.2.2 k) (S.2.2 k2) sp dp n))) rfl (az_up_ne hi) q) (by rw [az_ce_long]; show Sum.inl (_, n1, Sum.inr (Sum.inl (va_up S.2.2 k2 _ k2))) = _; rw [az_up_self]) hz hP
end AzRows5
