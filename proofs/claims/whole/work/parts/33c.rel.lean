section RL
variable {fb fc fd fr fp gc gd gw gf gp ge : Nat → Int32} {n k z t pl lf pn : Nat} {kn : Int32}
theorem Rel.kn_neg (h : Rel fb fc fd fr fp n k z t kn pl lf pn gc gd gw gf gp) : kn.toInt < 0 → kn = (-1) := by
  obtain ⟨-, -, -, -, -, -, h7⟩ := h
  intro q
  rcases h7 with h | ⟨v, hv, h, -, -⟩
  · exact h
  · rw [h, tI_N (by ((try clear hk); (try clear h1); (try clear h2); (try clear hneg); (try clear hq); (try clear hq2); omega))] at q; ((try clear hk); (try clear h1); (try clear h2); (try clear hneg); (try clear hq); (try clear hq2); omega)
theorem rel_put {fr' gw' : Nat → Int32} {k1 t1 k2 t2 : Nat} {x r1 r2 kn1 kn2 : Int32} (h : Rel fb fc fd fr fp n k z t kn pl lf pn gc gd gw gf gp) (h1 : q_put fr k t kn x r1 fr' k1 t1 kn1) (h2 : r_put gw k t kn x r2 gw' k2 t2 kn2) : r1 = r2 ∧ (k1 = k2 ∧ t1 = t2 ∧ kn1 = kn2) ∧ Rel fb fc fd fr' fp n k1 z t1 kn1 pl lf pn gc gd gw' gf gp := by
  obtain ⟨hB, hc, hd, hr, hf, hp, hk⟩ := h
  rcases h1 with ⟨a0, rfl, rfl, rfl, rfl, rfl⟩ | ⟨a0, rfl, rfl, rfl, rfl, rfl⟩
  · rcases h2 with ⟨b0, rfl, rfl, rfl, rfl, rfl⟩ | ⟨b0, -⟩
    · exact ⟨rfl, ⟨rfl, rfl, rfl⟩, hB, hc, hd, hr, hf, hp, hk⟩
    · ((try clear hk); (try clear h1); (try clear h2); (try clear hneg); (try clear hq); (try clear hq2); omega)
  · rcases h2 with ⟨b0, -⟩ | ⟨b0, rfl, rfl, rfl, rfl, rfl⟩
    · ((try clear hk); (try clear h1); (try clear h2); (try clear hneg); (try clear hq); (try clear hq2); omega)
    · refine ⟨rfl, ⟨rfl, rfl, rfl⟩, ⟨hB.1, by ((try clear hk); (try clear h1); (try clear h2); (try clear hneg); (try clear hq); (try clear hq2); omega), hB.2.2.1, by ((try clear hk); (try clear h1); (try clear h2); (try clear hneg); (try clear hq); (try clear hq2); omega), hB.2.2.2.2⟩, hc, hd, fun j hj => ?_, hf, hp, Or.inl rfl⟩
      by_cases q : j = k
      · rw [q, pk_us, if_pos (by ((try clear hk); (try clear h1); (try clear h2); (try clear hneg); (try clear hq); (try clear hq2); omega)), pk_us]
      · rw [pk_un (by ((try clear hk); (try clear h1); (try clear h2); (try clear hneg); (try clear hq); (try clear hq2); omega)), hr j hj, pk_un q]
        by_cases w : j < k
        · rw [if_pos w, if_pos (by ((try clear hk); (try clear h1); (try clear h2); (try clear hneg); (try clear hq); (try clear hq2); omega))]
        · rw [if_neg w, if_neg (by ((try clear hk); (try clear h1); (try clear h2); (try clear hneg); (try clear hq); (try clear hq2); omega))]
theorem rel_takeBack {fr' : Nat → Int32} {k1 t1 k2 t2 : Nat} {x r1 r2 kn1 kn2 : Int32} (h : Rel fb fc fd fr fp n k z t kn pl lf pn gc gd gw gf gp) (h1 : q_takeBack fr k t kn x r1 fr' k1 t1 kn1) (h2 : r_takeBack k t kn x r2 k2 t2 kn2) : r1 = r2 ∧ (k1 = k2 ∧ t1 = t2 ∧ kn1 = kn2) ∧ Rel fb fc fd fr' fp n k1 z t1 kn1 pl lf pn gc gd gw gf gp := by
  obtain ⟨hB, hc, hd, hr, hf, hp, hk⟩ := h
  rcases h1 with ⟨a0, rfl, rfl, rfl, rfl, rfl⟩ | ⟨j, a0, a1, rfl, rfl, rfl, rfl, rfl, rfl⟩
  · rcases h2 with ⟨b0, rfl, rfl, rfl, rfl⟩ | ⟨j, b0, b1, rfl, -⟩
    · exact ⟨rfl, ⟨rfl, rfl, rfl⟩, hB, hc, hd, hr, hf, hp, hk⟩
    · rw [tI_N (by ((try clear hk); (try clear h1); (try clear h2); (try clear hneg); (try clear hq); (try clear hq2); omega))] at a0; ((try clear hk); (try clear h1); (try clear h2); (try clear hneg); (try clear hq); (try clear hq2); omega)
  · rcases h2 with ⟨b0, -⟩ | ⟨i, b0, b1, e, rfl, rfl, rfl, rfl⟩
    · rw [tI_N (by ((try clear hk); (try clear h1); (try clear h2); (try clear hneg); (try clear hq); (try clear hq2); omega))] at b0; ((try clear hk); (try clear h1); (try clear h2); (try clear hneg); (try clear hq); (try clear hq2); omega)
    · have e2 : j = i := (nI_eq (by ((try clear hk); (try clear h1); (try clear h2); (try clear hneg); (try clear hq); (try clear hq2); omega)) (by ((try clear hk); (try clear h1); (try clear h2); (try clear hneg); (try clear hq); (try clear hq2); omega))).mp e
      subst e2
      refine ⟨rfl, ⟨rfl, rfl, rfl⟩, ⟨hB.1, by ((try clear hk); (try clear h1); (try clear h2); (try clear hneg); (try clear hq); (try clear hq2); omega), hB.2.2.1, by ((try clear hk); (try clear h1); (try clear h2); (try clear hneg); (try clear hq); (try clear hq2); omega), hB.2.2.2.2⟩, hc, hd, fun i hi => ?_, hf, hp, Or.inl rfl⟩
      simp only [p_fill]
      by_cases q : i < k - j
      · rw [if_neg (by ((try clear hk); (try clear h1); (try clear h2); (try clear hneg); (try clear hq); (try clear hq2); omega)), if_pos q, hr i hi, if_pos (by ((try clear hk); (try clear h1); (try clear h2); (try clear hneg); (try clear hq); (try clear hq2); omega))]
      · rw [if_pos (by ((try clear hk); (try clear h1); (try clear h2); (try clear hneg); (try clear hq); (try clear hq2); omega)), if_neg q]
theorem rel_difficulty {z1 t1 z2 t2 : Nat} {x r1 r2 kn1 kn2 : Int32} (h : Rel fb fc fd fr fp n k z t kn pl lf pn gc gd gw gf gp) (h1 : q_difficulty z t kn x r1 z1 t1 kn1) (h2 : q_difficulty z t kn x r2 z2 t2 kn2) : r1 = r2 ∧ (z1 = z2 ∧ t1 = t2 ∧ kn1 = kn2) ∧ Rel fb fc fd fr fp n k z1 t1 kn1 pl lf pn gc gd gw gf gp := by
  obtain ⟨hB, hc, hd, hr, hf, hp, hk⟩ := h
  rcases h1 with ⟨a0, rfl, rfl, rfl, rfl⟩ | ⟨j, a0, rfl, rfl, hz1, rfl, rfl⟩
  · rcases h2 with ⟨b0, rfl, rfl, rfl, rfl⟩ | ⟨j, b0, rfl, -⟩
    · exact ⟨rfl, ⟨rfl, rfl, rfl⟩, hB, hc, hd, hr, hf, hp, hk⟩
    · rw [tI_N (by ((try clear hk); (try clear h1); (try clear h2); (try clear hneg); (try clear hq); (try clear hq2); omega))] at a0; ((try clear hk); (try clear h1); (try clear h2); (try clear hneg); (try clear hq); (try clear hq2); omega)
  · rcases h2 with ⟨b0, -⟩ | ⟨i, b0, e, rfl, hz2, rfl, rfl⟩
    · rw [tI_N (by ((try clear hk); (try clear h1); (try clear h2); (try clear hneg); (try clear hq); (try clear hq2); omega))] at b0; ((try clear hk); (try clear h1); (try clear h2); (try clear hneg); (try clear hq); (try clear hq2); omega)
    · have e2 : j = i := (nI_eq (by ((try clear hk); (try clear h1); (try clear h2); (try clear hneg); (try clear hq); (try clear hq2); omega)) (by ((try clear hk); (try clear h1); (try clear h2); (try clear hneg); (try clear hq); (try clear hq2); omega))).mp e
      exact ⟨rfl, ⟨by rw [hz1, hz2, e2], rfl, rfl⟩, ⟨hB.1, hB.2.1, by rw [hz1]; exact a0, by ((try clear hk); (try clear h1); (try clear h2); (try clear hneg); (try clear hq); (try clear hq2); omega), hB.2.2.2.2⟩, hc, hd, hr, hf, hp, Or.inl rfl⟩
theorem rel_mine {fr' : Nat → Int32} {t1 t2 : Nat} {x r1 r2 kn1 kn2 : Int32} (h : Rel fb fc fd fr fp n k z t kn pl lf pn gc gd gw gf gp) (h1 : q_mine2 fc fr n k z t kn x r1 fr' t1 kn1) (h2 : r_mine2 (p_F gc gw ge n k z) z t kn x r2 t2 kn2) : r1 = r2 ∧ (t1 = t2 ∧ kn1 = kn2) ∧ Rel fb fc fd fr' fp n k z t1 kn1 pl lf pn gc gd gw gf gp := by
  have hneg := h.kn_neg
  obtain ⟨hB, hc, hd, hr, hf, hp, hk⟩ := h
  rcases h1 with ⟨a0, rfl, rfl, rfl, rfl⟩ | ⟨a0, h1⟩
  · rcases h2 with ⟨b0, rfl, rfl, rfl⟩ | ⟨b0, -⟩
    · exact ⟨rfl, ⟨rfl, rfl⟩, hB, hc, hd, hr, hf, hp, hk⟩
    · ((try clear hk); (try clear h1); (try clear h2); (try clear hneg); (try clear hq); (try clear hq2); omega)
  · rcases h2 with ⟨b0, -⟩ | ⟨b0, h2⟩
    · ((try clear hk); (try clear h1); (try clear h2); (try clear hneg); (try clear hq); (try clear hq2); omega)
    · rcases h1 with ⟨a1, rfl, rfl, rfl, rfl⟩ | ⟨a1, h1⟩
      · rcases h2 with ⟨b1, rfl, rfl, rfl⟩ | ⟨b1, -⟩
        · exact ⟨rfl, ⟨rfl, rfl⟩, hB, hc, hd, hr, hf, hp, hk⟩
        · exact absurd (hneg b1) a1
      · rcases h2 with ⟨b1, -⟩ | ⟨b1, h2⟩
        · rw [a1, m1_int] at b1; ((try clear hk); (try clear h1); (try clear h2); (try clear hneg); (try clear hq); (try clear hq2); omega)
        · rcases h1 with ⟨a2, rfl, rfl, rfl, rfl⟩ | ⟨a2, q, a3, rfl, hq, rfl⟩
          · rcases h2 with ⟨b2, rfl, rfl, rfl⟩ | ⟨b2, -⟩
            · exact ⟨rfl, ⟨rfl, rfl⟩, hB, hc, hd, hr, hf, hp, hk⟩
            · ((try clear hk); (try clear h1); (try clear h2); (try clear hneg); (try clear hq); (try clear hq2); omega)
          · rcases h2 with ⟨b2, -⟩ | ⟨b2, q2, b3, e, hq2, rfl⟩
            · ((try clear hk); (try clear h1); (try clear h2); (try clear hneg); (try clear hq); (try clear hq2); omega)
            · have e2 : q = q2 := (nI_eq (by ((try clear hk); (try clear h1); (try clear h2); (try clear hneg); (try clear hq); (try clear hq2); omega)) (by ((try clear hk); (try clear h1); (try clear h2); (try clear hneg); (try clear hq); (try clear hq2); omega))).mp e
              subst e2
              have eF : ∀ j, j < 25 → p_drf fc fr n k z j = p_F gc gw ge n k z j := fun j hj => (drf_eq hB.1 hc hr hj).trans (ent_eq hj).symm
              obtain ⟨rfl, rfl, ht⟩ := try_det (fun v => nz_eq2 eF v) (by ((try clear hk); (try clear h1); (try clear h2); (try clear hneg); (try clear hq); (try clear hq2); omega)) hq hq2
              refine ⟨rfl, ⟨rfl, rfl⟩, ⟨hB.1, hB.2.1, hB.2.2.1, ht, hB.2.2.2.2⟩, hc, hd, fun j hj => ?_, hf, hp, ?_⟩
              · have ed : p_drf fc fr n k z (16 + j) = if j < k then gw j else nI 0 := by
                  simp only [p_drf]
                  rw [pk_un (by ((try clear hk); (try clear h1); (try clear h2); (try clear hneg); (try clear hq); (try clear hq2); omega)), cph_out (by ((try clear hk); (try clear h1); (try clear h2); (try clear hneg); (try clear hq); (try clear hq2); omega)), cph_out (by ((try clear hk); (try clear h1); (try clear h2); (try clear hneg); (try clear hq); (try clear hq2); omega))]
                  exact hr j hj
                rcases hq with ⟨-, -, w, -⟩ | ⟨v, -, -, -, -, -, -, w, -⟩
                · rw [w _ (by ((try clear hk); (try clear h1); (try clear h2); (try clear hneg); (try clear hq); (try clear hq2); omega))]; exact ed
                · rw [w _ (by ((try clear hk); (try clear h1); (try clear h2); (try clear hneg); (try clear hq); (try clear hq2); omega)), pk_un (by ((try clear hk); (try clear h1); (try clear h2); (try clear hneg); (try clear hq); (try clear hq2); omega))]; exact ed
              · rcases hq with ⟨w, -⟩ | ⟨v, w1, w2, -, -, w5, -, w7, w8⟩
                · exact Or.inl w
                · have eE : ∀ j, j < 25 → p_drf fc fr n k z j = p_E gc gw n k z j := fun j hj => drf_eq hB.1 hc hr hj
                  exact Or.inr ⟨v, by ((try clear hk); (try clear h1); (try clear h2); (try clear hneg); (try clear hq); (try clear hq2); omega), w5, fun j hj => (w7 j hj).trans (upd_eq eE j hj), fun j hj => (w8 j hj).trans (hash_eq (upd_eq eE) j hj)⟩
end RL
