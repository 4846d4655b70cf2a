/-! the class's cells -/
def lyX0 : List az_Sh := [(7, 0, [some (some 1), some (some 7), some (some 13), some (some 20), some (some 29), some (some 37), some (some 40), some (some 42), some (some 43), none])]
def lyXs : List az_Sh := [(102, 8, [some (some 44), some (some 46), some (some 48), some (some 50), some (some 52), some (some 54), some (some 56), some (some 58)]), (100, 5, [])]
def lyX : List az_Sh := lyX0 ++ (lyC 1 ++ (lyC 7 ++ (lyF 13 ++ (lyH 20 ++ (lyT 29 ++ (lyB 37 ++ (lyP 40 ++ (lyXs ++ (lyS 44 ++ (lyS 46 ++ (lyS 48 ++ (lyS 50 ++ (lyS 52 ++ (lyS 54 ++ (lyS 56 ++ lyS 58)))))))))))))))
theorem az_at_sub {sh : List az_Sh} {L M t : List az_Sh} {o : Nat} (h : az_at sh 0 L) (hM : L.drop o = M ++ t) : az_at sh o M := by
  intro k q hk
  have h1 : L[o + k]? = some q := by
    rw [← List.getElem?_drop, hM]
    have hl : k < M.length := by
      rcases Nat.lt_or_ge k M.length with q9 | q9
      · exact q9
      · rw [List.getElem?_eq_none q9] at hk; cases hk
    rw [List.getElem?_append_left hl]
    exact hk
  have h2 := h (o + k) q h1
  rw [Nat.zero_add] at h2
  exact h2
theorem lyX_now {sh : List az_Sh} (h : az_at sh 0 lyX) : az_at sh 1 (lyC 1) := az_at_sub h (o := 1) rfl
theorem lyX_kept {sh : List az_Sh} (h : az_at sh 0 lyX) : az_at sh 7 (lyC 7) := az_at_sub h (o := 7) rfl
theorem lyX_fore {sh : List az_Sh} (h : az_at sh 0 lyX) : az_at sh 13 (lyF 13) := az_at_sub h (o := 13) rfl
theorem lyX_chan {sh : List az_Sh} (h : az_at sh 0 lyX) : az_at sh 20 (lyH 20) := az_at_sub h (o := 20) rfl
theorem lyX_turn {sh : List az_Sh} (h : az_at sh 0 lyX) : az_at sh 29 (lyT 29) := az_at_sub h (o := 29) rfl
theorem lyX_bowl {sh : List az_Sh} (h : az_at sh 0 lyX) : az_at sh 37 (lyB 37) := az_at_sub h (o := 37) rfl
theorem lyX_tape {sh : List az_Sh} (h : az_at sh 0 lyX) : az_at sh 40 (lyP 40) := az_at_sub h (o := 40) rfl
theorem lyX_shelf {sh : List az_Sh} (h : az_at sh 0 lyX) {s : Nat} (hs : s < 8) : az_at sh (44 + 2 * s) (lyS (44 + 2 * s)) := by
  have hk : s = 0 ∨ s = 1 ∨ s = 2 ∨ s = 3 ∨ s = 4 ∨ s = 5 ∨ s = 6 ∨ s = 7 := by omega
  rcases hk with rfl | rfl | rfl | rfl | rfl | rfl | rfl | rfl
  · exact az_at_sub h (o := 44) rfl
  · exact az_at_sub h (o := 46) rfl
  · exact az_at_sub h (o := 48) rfl
  · exact az_at_sub h (o := 50) rfl
  · exact az_at_sub h (o := 52) rfl
  · exact az_at_sub h (o := 54) rfl
  · exact az_at_sub h (o := 56) rfl
  · exact az_at_sub h (o := 58) (t := []) rfl
