/-! small pure rows -/
theorem az_jn {P : Int32 → Prop} {Goal : Prop} (z : Int32) (h : P z) (k : P z → Goal) : Goal := k h
def b2i (p : Prop) [Decidable p] : Int32 := if p then 1 else 0
theorem b2i_0 {p : Prop} [Decidable p] : b2i p = 0 ↔ ¬ p := by
  unfold b2i
  by_cases h : p
  · rw [if_pos h]; exact ⟨fun q => absurd q (by decide), fun q => absurd h q⟩
  · rw [if_neg h]; exact ⟨fun _ => h, fun _ => rfl⟩
theorem b2i_n {p : Prop} [Decidable p] : (¬ b2i p = 0) ↔ p := by
  unfold b2i
  by_cases h : p
  · rw [if_pos h]; exact ⟨fun _ => h, fun _ => by decide⟩
  · rw [if_neg h]; exact ⟨fun q => absurd rfl q, fun q => absurd q h⟩
theorem b2i_t {p : Prop} [Decidable p] (h : p) : 1 = b2i p := (if_pos h).symm
theorem b2i_f {p : Prop} [Decidable p] (h : ¬ p) : 0 = b2i p := (if_neg h).symm
theorem az_fm {l : Launch} {G : az_Gh} {d : Nat} {M : az_Md} {as : List Value} {S S' : az_St} {R : Option Value} (hk : az_kn M) (hle : (lg_sl (as.map (az_cv G))).length ≤ M.2.2.1) {lo : List (Option Value)} (hlo : az_en M.2.2.1 as = lo) (k : ∀ Post : Option Value → az_St → Prop, Post R S' → AW l G M d (az_F G Post) 0 0 0 lo [] S) : FM l G d M as S R S' := az_enter hk hle hlo (k _ ⟨rfl, rfl⟩)
theorem az_pi {Post : Option Value → az_St → Prop} {v R : Int32} {S S' : az_St} (h : Post (some (.int R)) S') (e1 : v = R) (e2 : S = S') : Post (some (.int v)) S := by subst e1; subst e2; exact h
theorem az_pl {Post : Option Value → az_St → Prop} {v R : Int64} {S S' : az_St} (h : Post (some (.long R)) S') (e1 : v = R) (e2 : S = S') : Post (some (.long v)) S := by subst e1; subst e2; exact h
theorem az_pv {Post : Option Value → az_St → Prop} {S S' : az_St} (h : Post none S') (e2 : S = S') : Post none S := by subst e2; exact h
/-- a country's cells: the object, then kind, a, pride, brandy, fed -/
def lyC (o : Nat) : List az_Sh := [(2, 0, [some (some (o + 1)), some (some (o + 2)), some (some (o + 3)), some (some (o + 4)), some (some (o + 5)), none, none, none, none, none, none, none, none, none]), (100, 8, []), (100, 8, []), (100, 8, []), (100, 8, []), (100, 8, [])]
/-- a shelf's cells -/
def lyS (o : Nat) : List az_Sh := [(4, 0, [some (some (o + 1)), none, none, none]), (101, 40, [])]
theorem az_tri {a : List az_Sh} {b b' : Nat → Nat → Int32} {c c' : Nat → Nat → Int64} (h1 : b = b') (h2 : c = c') : ((a, b, c) : az_St) = (a, b', c') := by subst h1; subst h2; rfl
