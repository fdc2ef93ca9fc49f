section RL
variable {fb fc fd fr fp gc gd gw gf gp ge : Nat → Int32} {n k z t pl lf pn : Nat} {kn : Int32}
theorem aud_eq (hc : ∀ j, j < 2040 → fc j = gc j) (hd : ∀ j, j < 8 → fd j = gd j) (hn : n ≤ 60) : ∀ q pl, p_aud fc fd n q pl = p_aud gc gd n q pl
  | 0, pl => rfl
  | q + 1, pl => by
    have eh : p_hdr fc fd n = p_hdr gc gd n := allN_congr (fun i hi => by simp only [p_iho]; rw [Nat.zero_add, hd i hi, hc_eq hc hn _ hi])
    rw [p_aud, p_aud, eh]
    by_cases h : n ≤ pl
    · rw [if_pos h, if_pos h]
    · rw [if_neg h, if_neg h, flt_eq hc hn (by ((try clear hk); (try clear h1); (try clear h2); (try clear hneg); (try clear hq); (try clear hq2); omega)), aud_eq hc hd hn q (pl + 1)]
theorem aud_le : ∀ q pl, pl ≤ 60 → n ≤ 60 → (p_aud gc gd n q pl).2.1 ≤ 60 ∧ (p_aud gc gd n q pl).2.2 ≤ 6
  | 0, pl, h, _ => ⟨h, Nat.zero_le _⟩
  | q + 1, pl, h, hn => by
    rw [p_aud]
    by_cases w : n ≤ pl
    · rw [if_pos w]
      split
      · exact ⟨h, Nat.zero_le _⟩
      · refine ⟨h, ?_⟩
        show (if n = 0 then 6 else 5) ≤ 6
        split <;> ((try clear hk); (try clear h1); (try clear h2); (try clear hneg); (try clear hq); (try clear hq2); omega)
    · rw [if_neg w]
      split
      · exact aud_le q (pl + 1) (by ((try clear hk); (try clear h1); (try clear h2); (try clear hneg); (try clear hq); (try clear hq2); omega)) hn
      · exact ⟨h, by have := p_flt_le gc n pl; show p_flt gc n pl ≤ 6; omega⟩
theorem rel_audit {pl1 lf1 pl2 lf2 : Nat} {x r1 r2 : Int32} (h : Rel fb fc fd fr fp n k z t kn pl lf pn gc gd gw gf gp) (h1 : q_audit fc fd n pl lf x r1 pl1 lf1) (h2 : q_audit gc gd n pl lf x r2 pl2 lf2) : r1 = r2 ∧ (pl1 = pl2 ∧ lf1 = lf2) ∧ Rel fb fc fd fr fp n k z t kn pl1 lf1 pn gc gd gw gf gp := by
  obtain ⟨hB, hc, hd, hr, hf, hp, hk⟩ := h
  rcases h1 with ⟨a0, rfl, rfl, rfl⟩ | ⟨q, a1, a2, rfl, a3⟩
  · rcases h2 with ⟨b0, rfl, rfl, rfl⟩ | ⟨q, b1, b2, rfl, -⟩
    · exact ⟨rfl, ⟨rfl, rfl⟩, hB, hc, hd, hr, hf, hp, hk⟩
    · rw [tI_N (by ((try clear hk); (try clear h1); (try clear h2); (try clear hneg); (try clear hq); (try clear hq2); omega))] at a0; ((try clear hk); (try clear h1); (try clear h2); (try clear hneg); (try clear hq); (try clear hq2); omega)
  · rcases h2 with ⟨b0, -⟩ | ⟨q2, b1, b2, e, b3⟩
    · rw [tI_N (by ((try clear hk); (try clear h1); (try clear h2); (try clear hneg); (try clear hq); (try clear hq2); omega))] at b0; ((try clear hk); (try clear h1); (try clear h2); (try clear hneg); (try clear hq); (try clear hq2); omega)
    · have e2 : q = q2 := (nI_eq (by ((try clear hk); (try clear h1); (try clear h2); (try clear hneg); (try clear hq); (try clear hq2); omega)) (by ((try clear hk); (try clear h1); (try clear h2); (try clear hneg); (try clear hq); (try clear hq2); omega))).mp e
      subst e2
      rw [aud_eq hc hd hB.1, ← b3] at a3
      obtain ⟨rfl, rfl, rfl⟩ : r1 = r2 ∧ pl1 = pl2 ∧ lf1 = lf2 := by
        injection a3 with u1 u2
        injection u2 with u2 u3
        exact ⟨u1, u2, u3⟩
      have hl := aud_le (gc := gc) (gd := gd) (n := n) q pl (by ((try clear hk); (try clear h1); (try clear h2); (try clear hneg); (try clear hq); (try clear hq2); omega)) (by ((try clear hk); (try clear h1); (try clear h2); (try clear hneg); (try clear hq); (try clear hq2); omega))
      rw [← b3] at hl
      exact ⟨rfl, ⟨rfl, rfl⟩, ⟨hB.1, hB.2.1, hB.2.2.1, hB.2.2.2.1, hl.1, hl.2, hB.2.2.2.2.2.2⟩, hc, hd, hr, hf, hp, hk⟩
end RL
