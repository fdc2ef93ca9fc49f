section RL
variable {fb fc fd fr fp gc gd gw gf gp ge : Nat → Int32} {n k z t pl lf pn : Nat} {kn : Int32}
theorem rel_find {x r1 r2 : Int32} (h : Rel fb fc fd fr fp n k z t kn pl lf pn gc gd gw gf gp) (h1 : q_find fb fc n x r1) (h2 : r_find gf gc n x r2) : r1 = r2 := by
  obtain ⟨hB, hc, hd, hr, hf, hp, hk⟩ := h
  rw [r_find, ← may_eq hf] at h2
  have e : ∀ y, y < n → p_hw fc x y = p_hw gc x y := fun y hy => hw_eq hc (by ((try clear hk); (try clear h1); (try clear h2); (try clear hneg); (try clear hq); (try clear hq2); omega)) x
  rcases h1 with ⟨a0, rfl⟩ | ⟨a0, h1⟩
  · rcases h2 with ⟨b0, rfl⟩ | ⟨b0, -⟩
    · rfl
    · rw [a0] at b0; cases b0
  · rcases h2 with ⟨b0, -⟩ | ⟨b0, h2⟩
    · rw [a0] at b0; cases b0
    · rcases h1 with ⟨y, y1, rfl, y3, y4⟩ | ⟨rfl, y4⟩
      · rcases h2 with ⟨w, w1, rfl, w3, w4⟩ | ⟨rfl, w4⟩
        · have : y = w := by
            rcases Nat.lt_trichotomy y w with q | q | q
            · have := w4 y q; rw [← e y y1, y3] at this; cases this
            · exact q
            · have := y4 w q; rw [e w w1, w3] at this; cases this
          rw [this]
        · have := w4 y y1; rw [← e y y1, y3] at this; cases this
      · rcases h2 with ⟨w, w1, rfl, w3, w4⟩ | ⟨rfl, w4⟩
        · have := y4 w w1; rw [e w w1, w3] at this; cases this
        · rfl
theorem hc_eq (hc : ∀ j, j < 2040 → fc j = gc j) (hn : n ≤ 60) (x : Int32) {i : Nat} (hi : i < 8) : p_hc fc n x i = p_hc gc n x i := by
  cases q : p_ok x n with
  | false => rw [hc_F q, hc_F q]
  | true =>
    obtain ⟨j, hj, rfl⟩ := ok_of (by ((try clear hk); (try clear h1); (try clear h2); (try clear hneg); (try clear hq); (try clear hq2); omega)) q
    rw [hc_T hj hn, hc_T hj hn]; exact hc _ (by ((try clear hk); (try clear h1); (try clear h2); (try clear hneg); (try clear hq); (try clear hq2); omega))
end RL
