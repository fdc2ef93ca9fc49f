section RL
variable {fb fc fd fr fp gc gd gw gf gp ge : Nat → Int32} {n k z t pl lf pn : Nat} {kn : Int32}
theorem rel_way {x w r1 r2 : Int32} (hn : n ≤ 60) (h1 : q_way n x w r1) (h2 : q_way n x w r2) : r1 = r2 := by
  rcases h1 with ⟨a0, rfl⟩ | ⟨y, K, a1, rfl, a2, h1⟩
  · rcases h2 with ⟨b0, rfl⟩ | ⟨y, K, b1, rfl, -⟩
    · rfl
    · rw [ok_N (by ((try clear hk); (try clear h1); (try clear h2); (try clear hneg); (try clear hq); (try clear hq2); omega)), decide_eq_true b1] at a0; cases a0
  · rcases h2 with ⟨b0, -⟩ | ⟨y2, K2, b1, e, b2, h2⟩
    · rw [ok_N (by ((try clear hk); (try clear h1); (try clear h2); (try clear hneg); (try clear hq); (try clear hq2); omega)), decide_eq_true a1] at b0; cases b0
    · have e2 : y = y2 := (nI_eq (by ((try clear hk); (try clear h1); (try clear h2); (try clear hneg); (try clear hq); (try clear hq2); omega)) (by ((try clear hk); (try clear h1); (try clear h2); (try clear hneg); (try clear hq); (try clear hq2); omega))).mp e
      subst e2
      have e3 : K = K2 := end_1 a2 b2
      subst e3
      have hKl := end_le (i := K) hn a2 (Nat.le_refl _)
      rcases h1 with ⟨c0, rfl⟩ | ⟨j, c1, rfl, rfl⟩
      · rcases h2 with ⟨d0, rfl⟩ | ⟨j, d1, rfl, rfl⟩
        · rfl
        · rw [tI_N (by ((try clear hk); (try clear h1); (try clear h2); (try clear hneg); (try clear hq); (try clear hq2); omega))] at c0; ((try clear hk); (try clear h1); (try clear h2); (try clear hneg); (try clear hq); (try clear hq2); omega)
      · rcases h2 with ⟨d0, rfl⟩ | ⟨j2, d1, e4, rfl⟩
        · rw [tI_N (by ((try clear hk); (try clear h1); (try clear h2); (try clear hneg); (try clear hq); (try clear hq2); omega))] at d0; ((try clear hk); (try clear h1); (try clear h2); (try clear hneg); (try clear hq); (try clear hq2); omega)
        · have e5 : j = j2 := (nI_eq (by ((try clear hk); (try clear h1); (try clear h2); (try clear hneg); (try clear hq); (try clear hq2); omega)) (by ((try clear hk); (try clear h1); (try clear h2); (try clear hneg); (try clear hq); (try clear hq2); omega))).mp e4
          rw [e5]
theorem rel_prove {fp' gp' : Nat → Int32} {pn1 pn2 : Nat} {x r1 r2 : Int32} (h : Rel fb fc fd fr fp n k z t kn pl lf pn gc gd gw gf gp) (h1 : q_prove fc fp n pn x r1 fp' pn1) (h2 : q_prove gc gp n pn x r2 gp' pn2) : r1 = r2 ∧ pn1 = pn2 ∧ Rel fb fc fd fr fp' n k z t kn pl lf pn1 gc gd gw gf gp' := by
  obtain ⟨hB, hc, hd, hr, hf, hp, hk⟩ := h
  rcases h1 with ⟨a0, rfl, rfl, rfl⟩ | ⟨y, K, a1, rfl, a2, rfl, rfl, a3⟩
  · rcases h2 with ⟨b0, rfl, rfl, rfl⟩ | ⟨y, K, b1, rfl, -⟩
    · exact ⟨rfl, rfl, hB, hc, hd, hr, hf, hp, hk⟩
    · rw [ok_N (by ((try clear hk); (try clear h1); (try clear h2); (try clear hneg); (try clear hq); (try clear hq2); omega)), decide_eq_true b1] at a0; cases a0
  · rcases h2 with ⟨b0, -⟩ | ⟨y2, K2, b1, e, b2, rfl, rfl, b3⟩
    · rw [ok_N (by ((try clear hk); (try clear h1); (try clear h2); (try clear hneg); (try clear hq); (try clear hq2); omega)), decide_eq_true a1] at b0; cases b0
    · have e2 : y = y2 := (nI_eq (by ((try clear hk); (try clear h1); (try clear h2); (try clear hneg); (try clear hq); (try clear hq2); omega)) (by ((try clear hk); (try clear h1); (try clear h2); (try clear hneg); (try clear hq); (try clear hq2); omega))).mp e
      subst e2
      have e3 : K = K2 := end_1 a2 b2
      subst e3
      have hKl := end_le (i := K) hB.1 a2 (Nat.le_refl _)
      refine ⟨rfl, rfl, ⟨hB.1, hB.2.1, hB.2.2.1, hB.2.2.2.1, hB.2.2.2.2.1, hB.2.2.2.2.2.1, by ((try clear hk); (try clear h1); (try clear h2); (try clear hneg); (try clear hq); (try clear hq2); omega)⟩, hc, hd, hr, hf, fun j hj => ?_, hk⟩
      have e4 : j = 26 * (j / 26) + j % 26 := (Nat.div_add_mod j 26).symm
      have hw := end_le (i := j / 26) hB.1 a2 (by ((try clear hk); (try clear h1); (try clear h2); (try clear hneg); (try clear hq); (try clear hq2); omega))
      rw [e4, a3 (j / 26) (j % 26) (by ((try clear hk); (try clear h1); (try clear h2); (try clear hneg); (try clear hq); (try clear hq2); omega)) (by ((try clear hk); (try clear h1); (try clear h2); (try clear hneg); (try clear hq); (try clear hq2); omega)), b3 (j / 26) (j % 26) (by ((try clear hk); (try clear h1); (try clear h2); (try clear hneg); (try clear hq); (try clear hq2); omega)) (by ((try clear hk); (try clear h1); (try clear h2); (try clear hneg); (try clear hq); (try clear hq2); omega))]
      exact hc _ (by ((try clear hk); (try clear h1); (try clear h2); (try clear hneg); (try clear hq); (try clear hq2); omega))
theorem rel_forge {fp' gp' : Nat → Int32} {x w r1 r2 : Int32} (h : Rel fb fc fd fr fp n k z t kn pl lf pn gc gd gw gf gp) (h1 : q_forge fp pn x w r1 fp') (h2 : q_forge gp pn x w r2 gp') : r1 = r2 ∧ Rel fb fc fd fr fp' n k z t kn pl lf pn gc gd gw gf gp' := by
  obtain ⟨hB, hc, hd, hr, hf, hp, hk⟩ := h
  rcases h1 with ⟨a0, rfl, rfl⟩ | ⟨j, a0, rfl, rfl, rfl⟩
  · rcases h2 with ⟨b0, rfl, rfl⟩ | ⟨j, b0, rfl, -⟩
    · exact ⟨rfl, hB, hc, hd, hr, hf, hp, hk⟩
    · rw [ok_N (by ((try clear hk); (try clear h1); (try clear h2); (try clear hneg); (try clear hq); (try clear hq2); omega)), decide_eq_true b0] at a0; cases a0
  · rcases h2 with ⟨b0, -⟩ | ⟨i, b0, e, rfl, rfl⟩
    · rw [ok_N (by ((try clear hk); (try clear h1); (try clear h2); (try clear hneg); (try clear hq); (try clear hq2); omega)), decide_eq_true a0] at b0; cases b0
    · have e2 : j = i := (nI_eq (by ((try clear hk); (try clear h1); (try clear h2); (try clear hneg); (try clear hq); (try clear hq2); omega)) (by ((try clear hk); (try clear h1); (try clear h2); (try clear hneg); (try clear hq); (try clear hq2); omega))).mp e
      subst e2
      refine ⟨hp j a0, hB, hc, hd, hr, hf, fun a ha => ?_, hk⟩
      by_cases q : a = j
      · rw [q, pk_us, pk_us]
      · rw [pk_un q, pk_un q]; exact hp a ha
end RL
