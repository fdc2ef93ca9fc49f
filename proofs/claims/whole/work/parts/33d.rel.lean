section RL
variable {fb fc fd fr fp gc gd gw gf gp ge : Nat → Int32} {n k z t pl lf pn : Nat} {kn : Int32}
theorem rel_commit {fb' fc' fd' fr' gc' gd' gf' : Nat → Int32} {n1 k1 t1 n2 k2 t2 : Nat} {r1 r2 kn1 kn2 : Int32} (h : Rel fb fc fd fr fp n k z t kn pl lf pn gc gd gw gf gp) (h1 : q_commit fb fc fd fr n k t kn r1 fb' fc' fd' fr' n1 k1 t1 kn1) (h2 : r_commit gc gd gw gf ge n k z t kn r2 gc' gd' gf' n2 k2 t2 kn2) : r1 = r2 ∧ (n1 = n2 ∧ k1 = k2 ∧ t1 = t2 ∧ kn1 = kn2) ∧ Rel fb' fc' fd' fr' fp n1 k1 z t1 kn1 pl lf pn gc' gd' gw gf' gp := by
  have hneg := h.kn_neg
  obtain ⟨hB, hc, hd, hr, hf, hp, hk⟩ := h
  rcases h1 with ⟨a0, rfl, rfl, rfl, rfl, rfl, rfl, rfl, rfl, rfl⟩ | ⟨a0, h1⟩
  · rcases h2 with ⟨b0, rfl, rfl, rfl, rfl, rfl, rfl, rfl, rfl⟩ | ⟨b0, -⟩
    · exact ⟨rfl, ⟨rfl, rfl, rfl, rfl⟩, hB, hc, hd, hr, hf, hp, hk⟩
    · ((try clear hk); (try clear h1); (try clear h2); (try clear hneg); (try clear hq); (try clear hq2); omega)
  · rcases h2 with ⟨b0, -⟩ | ⟨b0, h2⟩
    · ((try clear hk); (try clear h1); (try clear h2); (try clear hneg); (try clear hq); (try clear hq2); omega)
    · rcases h1 with ⟨a1, rfl, rfl, rfl, rfl, rfl, rfl, rfl, rfl, rfl⟩ | ⟨a1, rfl, rfl, rfl, rfl, rfl, rfl, rfl, rfl, rfl⟩
      · rcases h2 with ⟨b1, rfl, rfl, rfl, rfl, rfl, rfl, rfl, rfl⟩ | ⟨b1, -⟩
        · exact ⟨rfl, ⟨rfl, rfl, rfl, rfl⟩, hB, hc, hd, hr, hf, hp, hk⟩
        · rw [a1, m1_int] at b1; ((try clear hk); (try clear h1); (try clear h2); (try clear hneg); (try clear hq); (try clear hq2); omega)
      · rcases h2 with ⟨b1, -⟩ | ⟨b1, hh, b2, rfl, rfl, rfl, rfl, rfl, rfl, rfl, rfl⟩
        · exact absurd (hneg b1) a1
        · rcases hk with hk | ⟨v, hv, rfl, k5, k6⟩
          · exact absurd hk a1
          · have eE : ∀ j, j < 26 → fr j = upd (p_F gc gw ge n k z) 25 (nI v) j := fun j hj => (k5 j hj).trans (upd_eq (fun i hi => (ent_eq hi).symm) j hj)
            have eH : ∀ j, j < 8 → fr (26 + j) = hh j := fun j hj => (k6 j hj).trans ((hash_eq (upd_eq (fun i hi => (ent_eq (ge := ge) hi).symm)) j hj).trans (b2 j hj).symm)
            have eC : ∀ j, j < 2040 → va_cpy fr fc 0 (n * 34) 34 j = va_cpy hh (va_cpy (upd (p_F gc gw ge n k z) 25 (nI v)) gc 0 (34 * n) 26) 0 (34 * n + 26) 8 j := by
              intro j hj
              by_cases q1 : n * 34 ≤ j ∧ j < n * 34 + 34
              · rw [pk_cpy_in q1.1 q1.2]
                by_cases q2 : j < 34 * n + 26
                · rw [pk_cpy_out (by ((try clear hk); (try clear h1); (try clear h2); (try clear hneg); (try clear hq); (try clear hq2); omega)), pk_cpy_in (by ((try clear hk); (try clear h1); (try clear h2); (try clear hneg); (try clear hq); (try clear hq2); omega)) (by ((try clear hk); (try clear h1); (try clear h2); (try clear hneg); (try clear hq); (try clear hq2); omega)), show 0 + (j - 34 * n) = 0 + (j - n * 34) by ((try clear hk); (try clear h1); (try clear h2); (try clear hneg); (try clear hq); (try clear hq2); omega)]
                  exact eE _ (by ((try clear hk); (try clear h1); (try clear h2); (try clear hneg); (try clear hq); (try clear hq2); omega))
                · rw [pk_cpy_in (by ((try clear hk); (try clear h1); (try clear h2); (try clear hneg); (try clear hq); (try clear hq2); omega)) (by ((try clear hk); (try clear h1); (try clear h2); (try clear hneg); (try clear hq); (try clear hq2); omega))]
                  have := eH (j - (34 * n + 26)) (by ((try clear hk); (try clear h1); (try clear h2); (try clear hneg); (try clear hq); (try clear hq2); omega))
                  rw [show 26 + (j - (34 * n + 26)) = 0 + (j - n * 34) by ((try clear hk); (try clear h1); (try clear h2); (try clear hneg); (try clear hq); (try clear hq2); omega)] at this
                  rw [this, Nat.zero_add]
              · rw [pk_cpy_out (by ((try clear hk); (try clear h1); (try clear h2); (try clear hneg); (try clear hq); (try clear hq2); omega)), pk_cpy_out (by ((try clear hk); (try clear h1); (try clear h2); (try clear hneg); (try clear hq); (try clear hq2); omega)), pk_cpy_out (by ((try clear hk); (try clear h1); (try clear h2); (try clear hneg); (try clear hq); (try clear hq2); omega))]
                exact hc j hj
            refine ⟨rfl, ⟨rfl, rfl, rfl, rfl⟩, ⟨by ((try clear hk); (try clear h1); (try clear h2); (try clear hneg); (try clear hq); (try clear hq2); omega), by ((try clear hk); (try clear h1); (try clear h2); (try clear hneg); (try clear hq); (try clear hq2); omega), hB.2.2.1, by ((try clear hk); (try clear h1); (try clear h2); (try clear hneg); (try clear hq); (try clear hq2); omega), hB.2.2.2.2⟩, eC, fun j hj => ?_, fun j hj => ?_, ?_, hp, Or.inl rfl⟩
            · rw [cpy_0 hj, cpy_00 hj]; exact eH j hj
            · simp only [p_fill]
              rw [if_pos (by ((try clear hk); (try clear h1); (try clear h2); (try clear hneg); (try clear hq); (try clear hq2); omega)), if_neg (by ((try clear hk); (try clear h1); (try clear h2); (try clear hneg); (try clear hq); (try clear hq2); omega))]
            · exact rep_add hf 8 (fun j hj => by rw [show 34 * n + (16 + j) = n * 34 + 16 + j by ((try clear hk); (try clear h1); (try clear h2); (try clear hneg); (try clear hq); (try clear hq2); omega)]; exact eC _ (by ((try clear hk); (try clear h1); (try clear h2); (try clear hneg); (try clear hq); (try clear hq2); omega)))
theorem rel_spoil {fc' gc' : Nat → Int32} {t1 t2 : Nat} {x y w r1 r2 kn1 kn2 : Int32} (h : Rel fb fc fd fr fp n k z t kn pl lf pn gc gd gw gf gp) (h1 : q_spoil fc n t kn x y w r1 fc' t1 kn1) (h2 : r_spoil gc n t kn x y w r2 gc' t2 kn2) : r1 = r2 ∧ (t1 = t2 ∧ kn1 = kn2) ∧ Rel fb fc' fd fr fp n k z t1 kn1 pl lf pn gc' gd gw gf gp := by
  obtain ⟨hB, hc, hd, hr, hf, hp, hk⟩ := h
  rcases h1 with ⟨a0, rfl, rfl, rfl, rfl⟩ | ⟨i, j, a0, a1, rfl, rfl, rfl, rfl, rfl, rfl⟩
  · rcases h2 with ⟨b0, rfl, rfl, rfl, rfl⟩ | ⟨i, j, b0, b1, rfl, rfl, -⟩
    · exact ⟨rfl, ⟨rfl, rfl⟩, hB, hc, hd, hr, hf, hp, hk⟩
    · rw [ok_N (by ((try clear hk); (try clear h1); (try clear h2); (try clear hneg); (try clear hq); (try clear hq2); omega)), ok_N (by ((try clear hk); (try clear h1); (try clear h2); (try clear hneg); (try clear hq); (try clear hq2); omega)), decide_eq_true b0, decide_eq_true b1] at a0; cases a0
  · rcases h2 with ⟨b0, -⟩ | ⟨i2, j2, b0, b1, e1, e2, rfl, rfl, rfl, rfl⟩
    · rw [ok_N (by ((try clear hk); (try clear h1); (try clear h2); (try clear hneg); (try clear hq); (try clear hq2); omega)), ok_N (by ((try clear hk); (try clear h1); (try clear h2); (try clear hneg); (try clear hq); (try clear hq2); omega)), decide_eq_true a0, decide_eq_true a1] at b0; cases b0
    · have e3 : i = i2 := (nI_eq (by ((try clear hk); (try clear h1); (try clear h2); (try clear hneg); (try clear hq); (try clear hq2); omega)) (by ((try clear hk); (try clear h1); (try clear h2); (try clear hneg); (try clear hq); (try clear hq2); omega))).mp e1
      have e4 : j = j2 := (nI_eq (by ((try clear hk); (try clear h1); (try clear h2); (try clear hneg); (try clear hq); (try clear hq2); omega)) (by ((try clear hk); (try clear h1); (try clear h2); (try clear hneg); (try clear hq); (try clear hq2); omega))).mp e2
      subst e3; subst e4
      refine ⟨by rw [hc _ (by ((try clear hk); (try clear h1); (try clear h2); (try clear hneg); (try clear hq); (try clear hq2); omega)), Nat.mul_comm], ⟨rfl, rfl⟩, ⟨hB.1, hB.2.1, hB.2.2.1, by ((try clear hk); (try clear h1); (try clear h2); (try clear hneg); (try clear hq); (try clear hq2); omega), hB.2.2.2.2⟩, fun a ha => ?_, hd, hr, hf, hp, Or.inl rfl⟩
      rw [Nat.mul_comm i 34]
      by_cases q : a = 34 * i + j
      · rw [q, pk_us, pk_us]
      · rw [pk_un q, pk_un q]; exact hc a ha
theorem rel_drop {fb' fd' gd' gf' : Nat → Int32} {n1 t1 pl1 n2 t2 pl2 : Nat} {r1 r2 kn1 kn2 : Int32} (h : Rel fb fc fd fr fp n k z t kn pl lf pn gc gd gw gf gp) (h1 : q_drop fb fc fd n t kn pl r1 fb' fd' n1 t1 kn1 pl1) (h2 : r_drop gc gd gf n t kn pl r2 gd' gf' n2 t2 kn2 pl2) : r1 = r2 ∧ (n1 = n2 ∧ t1 = t2 ∧ kn1 = kn2 ∧ pl1 = pl2) ∧ Rel fb' fc fd' fr fp n1 k z t1 kn1 pl1 lf pn gc gd' gw gf' gp := by
  obtain ⟨hB, hc, hd, hr, hf, hp, hk⟩ := h
  rcases h1 with ⟨a0, rfl, rfl, rfl, rfl, rfl, rfl, rfl⟩ | ⟨a0, rfl, rfl, rfl, rfl, rfl, rfl, rfl⟩
  · rcases h2 with ⟨b0, rfl, rfl, rfl, rfl, rfl, rfl, rfl⟩ | ⟨b0, -⟩
    · exact ⟨rfl, ⟨rfl, rfl, rfl, rfl⟩, hB, hc, hd, hr, hf, hp, hk⟩
    · ((try clear hk); (try clear h1); (try clear h2); (try clear hneg); (try clear hq); (try clear hq2); omega)
  · rcases h2 with ⟨b0, -⟩ | ⟨b0, rfl, rfl, rfl, rfl, rfl, rfl, rfl⟩
    · ((try clear hk); (try clear h1); (try clear h2); (try clear hneg); (try clear hq); (try clear hq2); omega)
    · refine ⟨rfl, ⟨rfl, rfl, rfl, rfl⟩, ⟨by ((try clear hk); (try clear h1); (try clear h2); (try clear hneg); (try clear hq); (try clear hq2); omega), hB.2.1, hB.2.2.1, by ((try clear hk); (try clear h1); (try clear h2); (try clear hneg); (try clear hq); (try clear hq2); omega), by ((try clear hk); (try clear h1); (try clear h2); (try clear hneg); (try clear hq); (try clear hq2); omega), hB.2.2.2.2.2⟩, hc, fun j hj => ?_, hr, rep_rem hc _ (by ((try clear hk); (try clear h1); (try clear h2); (try clear hneg); (try clear hq); (try clear hq2); omega)), hp, Or.inl rfl⟩
      rw [cpy_0 hj, cpy_0 hj, show (n - 1) * 34 + 0 + j = 34 * (n - 1) + j by ((try clear hk); (try clear h1); (try clear h2); (try clear hneg); (try clear hq); (try clear hq2); omega)]
      exact hc _ (by ((try clear hk); (try clear h1); (try clear h2); (try clear hneg); (try clear hq); (try clear hq2); omega))
end RL
