/-! the abstract store: shapes of cells, ints by cell and place, longs by cell and place -/
abbrev az_Sh : Type := Nat × Nat × List (Option (Option Nat))
abbrev az_St : Type := List az_Sh × (Nat → Nat → Int32) × (Nat → Nat → Int64)
/-- base address; addresses of what lies outside; classes and slots; array classes; the script -/
abbrev az_Gh : Type := Nat × (Nat → Nat) × va_G × (Nat → ClassId) × (Nat × (Nat → Int32))
abbrev az_Md : Type := MethodName × ByteArray × Nat × Option FieldType
abbrev az_Fn : Type := List Frame → Array Value → State → Nat → Nat → State → Prop
def az_ad (G : az_Gh) (k : Nat) : Nat := if k < 1000 then G.1 + k else G.2.1 k
def az_cv (G : az_Gh) (v : Value) : Value := match v with
  | .ref k => .ref (az_ad G k)
  | w => w
def az_A (G : az_Gh) : Nat → Prop := fun q => G.1 ≤ q
def az_ty (G : az_Gh) : List (ClassId × FieldType) := [(G.2.2.2.1 0, .int), (G.2.2.2.1 1, .long), (G.2.2.2.1 2, .object "ColdestSaysSo$Shelf"), (G.2.2.2.1 3, .array .long), (G.2.2.2.1 4, .array .int)]
def az_fv (G : az_Gh) (x : Int32) (f : Option (Option Nat)) : Value := match f with
  | none => .int x
  | some r => va_rf (r.map (az_ad G))
def az_rq (G : az_Gh) (fs : List (Option (Option Nat))) (j : Nat) : Option Nat := match fs[j]? with
  | some (some r) => r.map (az_ad G)
  | _ => none
def az_ce (G : az_Gh) (S : az_St) (k : Nat) (q : az_Sh) : va_E :=
  if q.1 = 100 then .inl (G.2.2.2.1 0, q.2.1, .inl (S.2.1 k))
  else if q.1 = 101 then .inl (G.2.2.2.1 1, q.2.1, .inr (.inl (S.2.2 k)))
  else if 102 ≤ q.1 then .inl (G.2.2.2.1 (q.1 - 100), q.2.1, .inr (.inr (.inr (.inr (az_rq G q.2.2)))))
  else .inr (q.1, q.2.2.mapIdx (fun j f => az_fv G (S.2.1 k j) f))
def az_wl (G : az_Gh) (S : az_St) : va_W := S.1.mapIdx (fun k q => (G.1 + k, az_ce G S k q))
def az_hp (G : az_Gh) (S : az_St) (H : Heap) : Prop := H.size = G.1 + S.1.length ∧ S.1.length ≤ 1000 ∧ va_P G.2.2.1 vwCl (az_wl G S) H
/-- one int of one cell becomes another -/
def az_w (s : Nat → Nat → Int32) (k j : Nat) (x : Int32) : Nat → Nat → Int32 := va_up s k (va_up (s k) j x)
def az_wL (s : Nat → Nat → Int64) (k j : Nat) (x : Int64) : Nat → Nat → Int64 := va_up s k (va_up (s k) j x)
theorem az_ad_lt {G : az_Gh} {k : Nat} (h : k < 1000) : az_ad G k = G.1 + k := if_pos h
theorem az_len {α : Type} {l : List α} {k : Nat} {q : α} (h : l[k]? = some q) : k < l.length := (List.getElem?_eq_some_iff.mp h).1
theorem az_wl_at {G : az_Gh} {S : az_St} {k : Nat} {q : az_Sh} (h : S.1[k]? = some q) : (az_wl G S)[k]? = some (G.1 + k, az_ce G S k q) := by
  unfold az_wl
  rw [List.getElem?_mapIdx, h]
  rfl
theorem az_wl_in {G : az_Gh} {S : az_St} {k : Nat} {x : Nat × va_E} (h : (az_wl G S)[k]? = some x) : ∃ q, S.1[k]? = some q ∧ x = (G.1 + k, az_ce G S k q) := by
  unfold az_wl at h
  rw [List.getElem?_mapIdx] at h
  cases hq : S.1[k]? with
  | none => rw [hq] at h; cases h
  | some q => rw [hq] at h; exact ⟨q, rfl, (Option.some.inj h).symm⟩
theorem az_wl_D (G : az_Gh) (S : az_St) : va_D (az_A G) (az_wl G S) := by
  refine ⟨fun i j x y hx hy hxy => ?_, fun k x hx => ?_⟩
  · obtain ⟨q, -, rfl⟩ := az_wl_in hx
    obtain ⟨r, -, rfl⟩ := az_wl_in hy
    have h : G.1 + i = G.1 + j := hxy
    omega
  · obtain ⟨q, -, rfl⟩ := az_wl_in hx
    exact Nat.le_add_right _ _
theorem az_wl_set {G : az_Gh} {S S' : az_St} {k : Nat} {q' : az_Sh} {e' : va_E} (h1 : S'.1 = S.1.set k q') (h2 : ∀ i q, i ≠ k → az_ce G S' i q = az_ce G S i q) (h3 : az_ce G S' k q' = e') : az_wl G S' = (az_wl G S).set k (G.1 + k, e') := by
  apply List.ext_getElem?
  intro i
  unfold az_wl
  rw [h1, List.getElem?_mapIdx, List.getElem?_set, List.getElem?_set]
  by_cases hi : k = i
  · subst hi
    by_cases hl : k < S.1.length
    · simp [hl, h3]
    · simp [hl]
  · rw [if_neg hi, if_neg hi, List.getElem?_mapIdx]
    cases S.1[i]? with
    | none => rfl
    | some q => simp [h2 i q (fun z => hi z.symm)]
theorem az_set_self {α : Type} {l : List α} {k : Nat} {q : α} (h : l[k]? = some q) : l.set k q = l := by
  apply List.ext_getElem?
  intro i
  rw [List.getElem?_set]
  by_cases hi : k = i
  · subst hi
    rw [if_pos rfl, if_pos (az_len h), h]
  · rw [if_neg hi]
theorem az_ce_ne {G : az_Gh} {S S' : az_St} {i : Nat} (h1 : S'.2.1 i = S.2.1 i) (h2 : S'.2.2 i = S.2.2 i) (q : az_Sh) : az_ce G S' i q = az_ce G S i q := by
  unfold az_ce
  rw [h1, h2]
theorem az_wl_push {G : az_Gh} {S S' : az_St} {q : az_Sh} {e' : va_E} (h1 : S'.1 = S.1 ++ [q]) (h2 : ∀ i q, i < S.1.length → az_ce G S' i q = az_ce G S i q) (h3 : az_ce G S' S.1.length q = e') : az_wl G S' = az_wl G S ++ [(G.1 + S.1.length, e')] := by
  apply List.ext_getElem?
  intro i
  unfold az_wl
  rw [h1, List.getElem?_mapIdx]
  by_cases hi : i < S.1.length
  · rw [List.getElem?_append_left hi, List.getElem?_append_left (by simpa using hi), List.getElem?_mapIdx]
    cases S.1[i]? with
    | none => rfl
    | some r => simp [h2 i r hi]
  · rw [List.getElem?_append_right (by omega), List.getElem?_append_right (by simpa using hi)]
    simp only [List.length_mapIdx]
    by_cases he : i = S.1.length
    · subst he
      simp [h3]
    · have : i - S.1.length ≠ 0 := by omega
      obtain ⟨z, hz⟩ : ∃ z, i - S.1.length = z + 1 := ⟨i - S.1.length - 1, by omega⟩
      rw [hz]
      rfl
theorem az_hp_set {G : az_Gh} {S S' : az_St} {H H1 : Heap} {k : Nat} {q' : az_Sh} {e' : va_E} (h : az_hp G S H) (h1 : S'.1 = S.1.set k q') (h2 : ∀ i q, i ≠ k → az_ce G S' i q = az_ce G S i q) (h3 : az_ce G S' k q' = e') (hz : H1.size = H.size) (hP : va_P G.2.2.1 vwCl ((az_wl G S).set k (G.1 + k, e')) H1) : az_hp G S' H1 := by
  refine ⟨by rw [hz, h.1, h1, List.length_set], by rw [h1, List.length_set]; exact h.2.1, ?_⟩
  rw [az_wl_set h1 h2 h3]
  exact hP
/-- what lies around: the tables' facts that calls hand on, the constant arrays and texts -/
def az_isN (w : Cond) : Bool := match w with
  | .fieldLinkNest _ _ _ _ _ _ => true
  | .methodLinkNest _ _ _ _ => true
  | _ => false
def az_tx : List String := ["person", "feed", "brandy", "air", "fall", "day", "coal"]
def az_tl : List Nat := [6, 4, 6, 3, 4, 3, 4]
def az_tb8 : List (List Int32) := [[112, 101, 114, 115, 111, 110], [102, 101, 101, 100], [98, 114, 97, 110, 100, 121], [97, 105, 114], [102, 97, 108, 108], [100, 97, 121], [99, 111, 97, 108]]
def az_ex (G : az_Gh) (k : Nat) : Nat × (Nat → Int32) :=
  if k = 1000 then (6, fun j => [-1, 0, 0, 1, 2, 0].getD j 0)
  else if k = 1001 then (3, fun j => [20, 9, 40].getD j 0)
  else if k = 1002 then (4, fun j => [40, 5, 999, 9].getD j 0)
  else G.2.2.2.2
def az_T (G : az_Gh) (U : State) (k : Nat) : Prop := va_T .int (G.2.1 k) (az_ex G k).1 (fun j => .int ((az_ex G k).2 j)) (az_A G) U U.heap
def az_Zs (G : az_Gh) (U : State) (n : String) (k : Nat) : Prop := va_Z "ColdestSaysSo" n "[I" (.ref (G.2.1 k)) (az_A G) U U.heap
def az_AOA (t : FieldType) (U : State) : Prop := (Cond.arrayOver (.array t)).before #[] U = true
theorem az_AOA.moved {t : FieldType} {u U : State} (hvm : u.vm.Alike U.vm) (h : az_AOA t u) : az_AOA t U := Jvm.Stand.arrayOver_alikeB hvm h
def az_nest : List Cond := [(Jvm.Cond.methodLinkNest "ColdestSaysSo" (9 : Nat) ({ cls := "ColdestSaysSo$Country", name := "<init>", desc := "()V" } : Jvm.MethodName) "ColdestSaysSo"), (Jvm.Cond.fieldLinkNest "ColdestSaysSo$Turns" (30 : Nat) "ColdestSaysSo$Country" "kind" "[I" "ColdestSaysSo"), (Jvm.Cond.fieldLinkNest "ColdestSaysSo" (140 : Nat) "ColdestSaysSo$Country" "kind" "[I" "ColdestSaysSo"), (Jvm.Cond.fieldLinkNest "ColdestSaysSo" (201 : Nat) "ColdestSaysSo$Country" "a" "[I" "ColdestSaysSo"), (Jvm.Cond.fieldLinkNest "ColdestSaysSo$Turns" (52 : Nat) "ColdestSaysSo$Country" "pride" "[I" "ColdestSaysSo"), (Jvm.Cond.fieldLinkNest "ColdestSaysSo" (146 : Nat) "ColdestSaysSo$Country" "pride" "[I" "ColdestSaysSo"), (Jvm.Cond.fieldLinkNest "ColdestSaysSo$Foresight" (71 : Nat) "ColdestSaysSo$Country" "pride" "[I" "ColdestSaysSo"), (Jvm.Cond.fieldLinkNest "ColdestSaysSo$Tape" (69 : Nat) "ColdestSaysSo$Country" "brandy" "[I" "ColdestSaysSo"), (Jvm.Cond.fieldLinkNest "ColdestSaysSo" (162 : Nat) "ColdestSaysSo$Country" "brandy" "[I" "ColdestSaysSo"), (Jvm.Cond.fieldLinkNest "ColdestSaysSo$Turns" (45 : Nat) "ColdestSaysSo$Country" "fed" "[I" "ColdestSaysSo"), (Jvm.Cond.fieldLinkNest "ColdestSaysSo$Tape" (57 : Nat) "ColdestSaysSo$Country" "fed" "[I" "ColdestSaysSo"), (Jvm.Cond.fieldLinkNest "ColdestSaysSo" (165 : Nat) "ColdestSaysSo$Country" "fed" "[I" "ColdestSaysSo"), (Jvm.Cond.fieldLinkNest "ColdestSaysSo$Foresight" (95 : Nat) "ColdestSaysSo$Country" "fed" "[I" "ColdestSaysSo"), (Jvm.Cond.fieldLinkNest "ColdestSaysSo$Turns" (26 : Nat) "ColdestSaysSo$Country" "people" "I" "ColdestSaysSo"), (Jvm.Cond.fieldLinkNest "ColdestSaysSo$Foresight" (34 : Nat) "ColdestSaysSo$Country" "people" "I" "ColdestSaysSo"), (Jvm.Cond.fieldLinkNest "ColdestSaysSo$Tape" (60 : Nat) "ColdestSaysSo$Country" "people" "I" "ColdestSaysSo"), (Jvm.Cond.fieldLinkNest "ColdestSaysSo" (213 : Nat) "ColdestSaysSo$Country" "people" "I" "ColdestSaysSo"), (Jvm.Cond.fieldLinkNest "ColdestSaysSo$Chances" (39 : Nat) "ColdestSaysSo$Country" "air" "I" "ColdestSaysSo"), (Jvm.Cond.fieldLinkNest "ColdestSaysSo$Foresight" (81 : Nat) "ColdestSaysSo$Country" "air" "I" "ColdestSaysSo"), (Jvm.Cond.fieldLinkNest "ColdestSaysSo" (228 : Nat) "ColdestSaysSo$Country" "air" "I" "ColdestSaysSo"), (Jvm.Cond.fieldLinkNest "ColdestSaysSo$Chances" (46 : Nat) "ColdestSaysSo$Country" "fall" "I" "ColdestSaysSo"), (Jvm.Cond.fieldLinkNest "ColdestSaysSo" (298 : Nat) "ColdestSaysSo$Country" "fall" "I" "ColdestSaysSo"), (Jvm.Cond.fieldLinkNest "ColdestSaysSo" (335 : Nat) "ColdestSaysSo$Country" "day" "I" "ColdestSaysSo"), (Jvm.Cond.fieldLinkNest "ColdestSaysSo" (174 : Nat) "ColdestSaysSo$Country" "winter" "I" "ColdestSaysSo"), (Jvm.Cond.fieldLinkNest "ColdestSaysSo" (238 : Nat) "ColdestSaysSo$Country" "coal" "I" "ColdestSaysSo"), (Jvm.Cond.fieldLinkNest "ColdestSaysSo" (332 : Nat) "ColdestSaysSo$Country" "seed" "I" "ColdestSaysSo"), (Jvm.Cond.methodLinkNest "ColdestSaysSo" (21 : Nat) ({ cls := "ColdestSaysSo$Foresight", name := "<init>", desc := "()V" } : Jvm.MethodName) "ColdestSaysSo"), (Jvm.Cond.methodLinkNest "ColdestSaysSo$Foresight" (11 : Nat) ({ cls := "ColdestSaysSo$Country", name := "<init>", desc := "()V" } : Jvm.MethodName) "ColdestSaysSo"), (Jvm.Cond.fieldLinkNest "ColdestSaysSo" (235 : Nat) "ColdestSaysSo$Foresight" "whom" "I" "ColdestSaysSo"), (Jvm.Cond.methodLinkNest "ColdestSaysSo" (28 : Nat) ({ cls := "ColdestSaysSo$Chances", name := "<init>", desc := "()V" } : Jvm.MethodName) "ColdestSaysSo"), (Jvm.Cond.methodLinkNest "ColdestSaysSo$Chances" (11 : Nat) ({ cls := "ColdestSaysSo$Country", name := "<init>", desc := "()V" } : Jvm.MethodName) "ColdestSaysSo"), (Jvm.Cond.methodLinkNest "ColdestSaysSo" (35 : Nat) ({ cls := "ColdestSaysSo$Turns", name := "<init>", desc := "()V" } : Jvm.MethodName) "ColdestSaysSo"), (Jvm.Cond.methodLinkNest "ColdestSaysSo$Turns" (11 : Nat) ({ cls := "ColdestSaysSo$Country", name := "<init>", desc := "()V" } : Jvm.MethodName) "ColdestSaysSo"), (Jvm.Cond.methodLinkNest "ColdestSaysSo" (42 : Nat) ({ cls := "ColdestSaysSo$Bowls", name := "<init>", desc := "()V" } : Jvm.MethodName) "ColdestSaysSo"), (Jvm.Cond.methodLinkNest "ColdestSaysSo" (49 : Nat) ({ cls := "ColdestSaysSo$Tape", name := "<init>", desc := "()V" } : Jvm.MethodName) "ColdestSaysSo"), (Jvm.Cond.fieldLinkNest "ColdestSaysSo" (341 : Nat) "ColdestSaysSo$Tape" "size" "I" "ColdestSaysSo"), (Jvm.Cond.methodLinkNest "ColdestSaysSo" (68 : Nat) ({ cls := "ColdestSaysSo$Shelf", name := "<init>", desc := "()V" } : Jvm.MethodName) "ColdestSaysSo"), (Jvm.Cond.fieldLinkNest "ColdestSaysSo" (110 : Nat) "ColdestSaysSo$Shelf" "elements" "[J" "ColdestSaysSo"), (Jvm.Cond.fieldLinkNest "ColdestSaysSo" (103 : Nat) "ColdestSaysSo$Shelf" "sort" "I" "ColdestSaysSo"), (Jvm.Cond.fieldLinkNest "ColdestSaysSo" (350 : Nat) "ColdestSaysSo$Shelf" "size" "I" "ColdestSaysSo"), (Jvm.Cond.fieldLinkNest "ColdestSaysSo" (124 : Nat) "ColdestSaysSo$Shelf" "shown" "I" "ColdestSaysSo"), (Jvm.Cond.methodLinkNest "ColdestSaysSo$Country" (65 : Nat) ({ cls := "ColdestSaysSo", name := "asNumber", desc := "(Z)I" } : Jvm.MethodName) "ColdestSaysSo"), (Jvm.Cond.fieldLinkNest "ColdestSaysSo$Tape" (79 : Nat) "ColdestSaysSo" "MOST_TOLD" "[I" "ColdestSaysSo"), (Jvm.Cond.methodLinkNest "ColdestSaysSo$Foresight" (84 : Nat) ({ cls := "ColdestSaysSo", name := "asNumber", desc := "(Z)I" } : Jvm.MethodName) "ColdestSaysSo"), (Jvm.Cond.methodLinkNest "ColdestSaysSo$Chances" (42 : Nat) ({ cls := "ColdestSaysSo", name := "isWithin", desc := "(II)Z" } : Jvm.MethodName) "ColdestSaysSo")]
def az_strs : List (String × Nat × Nat) := [("ColdestSaysSo$Tape", 43, 0), ("ColdestSaysSo$Tape", 55, 1), ("ColdestSaysSo$Tape", 67, 2), ("ColdestSaysSo$Tape", 71, 3), ("ColdestSaysSo$Tape", 73, 4), ("ColdestSaysSo$Tape", 75, 5), ("ColdestSaysSo$Tape", 77, 6), ("ColdestSaysSoModel", 198, 0), ("ColdestSaysSoModel", 200, 1), ("ColdestSaysSoModel", 190, 2), ("ColdestSaysSoModel", 205, 3), ("ColdestSaysSoModel", 206, 4), ("ColdestSaysSoModel", 207, 5), ("ColdestSaysSoModel", 208, 6)]
def az_amb (G : az_Gh) (U : State) : Prop :=
  G.1 ≤ U.heap.size ∧ va_K G.2.2.1 vwCl (az_ty G) U ∧ (∀ w ∈ az_nest, va_Nw w U) ∧ (∀ q ∈ az_strs, vk_R q.1 q.2.1 (az_tx.getD q.2.2 "") (G.2.1 (2000 + q.2.2)) U) ∧
  vk_S 7 az_tl az_tb8 (fun i => G.2.1 (2000 + i)) (fun i => G.2.1 (3000 + i)) (az_A G) U U.heap ∧
  (az_Zs G U "KIND_ABOVE" 1000 ∧ az_Zs G U "MOST_GIVEN" 1001 ∧ az_Zs G U "MOST_TOLD" 1002) ∧ (∀ k, 1000 ≤ k → k ≤ 1003 → az_T G U k) ∧
  va_Z "java/lang/String" "COMPACT_STRINGS" "Z" (.int 1) (az_A G) U U.heap ∧ va_AO "ColdestSaysSo$Shelf" U ∧ az_AOA .long U ∧ az_AOA .int U ∧
  (va_Z "jdk/internal/util/Preconditions" "SIOOBE_FORMATTER" "Ljava/util/function/BiFunction;" (.ref (G.2.1 1004)) (az_A G) U U.heap ∨ va_Z "jdk/internal/util/Preconditions" "SIOOBE_FORMATTER" "Ljava/util/function/BiFunction;" .null (az_A G) U U.heap)
theorem az_nest_ok : az_nest.all az_isN = true := by decide +kernel
theorem az_nest_on {w : Cond} (h : w ∈ az_nest) : w.onTables = true := by
  have h1 := List.all_eq_true.mp az_nest_ok w h
  cases w <;> first | rfl | (exact absurd h1 (by simp [az_isN]))
theorem az_nest_warm {w : Cond} (h : w ∈ az_nest) {s U : State} (hW : s.WarmedH U.vm) (hZ : va_Nw w s) : va_Nw w U := by
  have h1 := List.all_eq_true.mp az_nest_ok w h
  cases w <;> first | exact va_Nw.warmF hW hZ | exact va_Nw.warmM hW hZ | (exact absurd h1 (by simp [az_isN]))
theorem az_amb.same {G : az_Gh} {u U : State} (hv : U.vm = u.vm) (hh : U.heap = u.heap) (h : az_amb G u) : az_amb G U := by
  have ha : u.vm.Alike U.vm := by rw [hv]; exact Vm.Alike.refl _
  obtain ⟨h1, h2, h3, h4, h5, ⟨z1, z2, z3⟩, h7, h8, h9, h10, h11, h12⟩ := h
  refine ⟨by rw [hh]; exact h1, h2.moved ha, fun w hw => va_Nw.same (az_nest_on hw) hv.symm (h3 w hw), fun q hq => vk_R.same hv (h4 q hq), by rw [hh]; exact h5.moved ha, ⟨?_, ?_, ?_⟩, fun k q1 q2 => ?_, by rw [hh]; exact h8.moved ha, h9.moved ha, h10.moved ha, h11.moved ha, h12.imp (fun q => by rw [hh]; exact va_Z.moved ha q) (fun q => by rw [hh]; exact va_Z.moved ha q)⟩
  · unfold az_Zs; rw [hh]; exact z1.moved ha
  · unfold az_Zs; rw [hh]; exact z2.moved ha
  · unfold az_Zs; rw [hh]; exact z3.moved ha
  · unfold az_T; rw [hh]; exact (h7 k q1 q2).moved ha
theorem az_amb.warm {G : az_Gh} {s U : State} (hW : s.WarmedH U.vm) (hz : s.heap.size ≤ U.heap.size) (hh : ∀ q : Nat, q < s.heap.size → ¬ az_A G q → U.heap[q]? = s.heap[q]?) (h : az_amb G s) : az_amb G U := by
  have ha : s.vm.Alike U.vm := hW.alike
  obtain ⟨h1, h2, h3, h4, h5, ⟨z1, z2, z3⟩, h7, h8, h9, h10, h11, h12⟩ := h
  exact ⟨Nat.le_trans h1 hz, h2.moved ha, fun w hw => az_nest_warm hw hW (h3 w hw), fun q hq => (h4 q hq).warm hW, (h5.moved ha).kept hh, ⟨(va_Z.moved ha z1).kept hh, (va_Z.moved ha z2).kept hh, (va_Z.moved ha z3).kept hh⟩, fun k q1 q2 => (va_T.moved ha (h7 k q1 q2)).kept hh, (h8.moved ha).kept hh, h9.moved ha, h10.moved ha, h11.moved ha, h12.imp (fun q => (va_Z.moved ha q).kept hh) (fun q => (va_Z.moved ha q).kept hh)⟩
