/-- the draft -/
theorem ent_eq {gc gw ge : Nat → Int32} {n k z j : Nat} (hj : j < 25) : p_F gc gw ge n k z j = p_E gc gw n k z j := by
  simp only [p_F, p_E]
  by_cases q : j = 24
  · rw [q, pk_us, pk_us]
  · rw [pk_un q, pk_un q]
    simp only [p_eN]
    rw [if_pos (by omega)]
theorem cph_out {fc fr : Nat → Int32} {n d j : Nat} {x : Int32} (h : j < d ∨ d + 8 ≤ j) : p_cph fc fr n x d j = fr j := by
  simp only [p_cph]
  split
  · exact pk_cpy_out h
  · simp only [p_fill]; rw [if_neg (by omega)]
theorem cph_in {fc fr : Nat → Int32} {n d j : Nat} {x : Int32} (h : j < 8) : p_cph fc fr n x d (d + j) = p_hc fc n x j := by
  simp only [p_cph, p_hc]
  split
  · rw [pk_cpy_in (by omega) (by omega)]; congr 1; omega
  · simp only [p_fill]; rw [if_pos (by omega)]
theorem drf_eq {fc fr gc gw : Nat → Int32} {n k z : Nat} (hn : n ≤ 60) (e : ∀ j, j < 2040 → fc j = gc j) (hr : ∀ j, j < 8 → fr (16 + j) = if j < k then gw j else nI 0) {j : Nat} (hj : j < 25) : p_drf fc fr n k z j = p_E gc gw n k z j := by
  simp only [p_drf, p_E]
  by_cases q : j = 24
  · rw [q, pk_us, pk_us]
  · rw [pk_un q, pk_un q]
    simp only [p_ent]
    by_cases h1 : j < 8
    · rw [if_pos h1, cph_out (by omega)]
      have c := cph_in (fc := fc) (fr := fr) (n := n) (d := 0) (x := nI n - nI 1) h1
      rw [Nat.zero_add] at c
      rw [c]
      by_cases w : n = 0
      · rw [if_pos w]; exact hdr_F w
      · rw [if_neg w, hdr_T (by omega) hn]; exact e _ (by omega)
    · rw [if_neg h1]
      by_cases h2 : j < 16
      · rw [if_pos h2]
        have c := cph_in (fc := fc) (fr := p_cph fc fr n (nI n - nI 1) 0) (n := n) (d := 8) (x := p_skI n) (j := j - 8) (by omega)
        rw [show 8 + (j - 8) = j by omega] at c
        rw [c]
        by_cases w : n = 0
        · rw [if_pos w, w]; exact hc_F (ok_m1 0)
        · have := sk_lt n (by omega) (by omega)
          rw [if_neg w, p_skI, if_neg w, hc_M (by omega) hn]; exact e _ (by omega)
      · rw [if_neg h2, cph_out (by omega), cph_out (by omega)]
        have := hr (j - 16) (by omega)
        rw [show 16 + (j - 16) = j by omega] at this
        exact this
theorem upd_eq {f g : Nat → Int32} {v : Int32} (h : ∀ j, j < 25 → f j = g j) : ∀ j, j < 26 → upd f 25 v j = upd g 25 v j := by
  intro j hj
  by_cases q : j = 25
  · rw [q, pk_us, pk_us]
  · rw [pk_un q, pk_un q]; exact h j (by omega)
theorem hash_eq {f g : Nat → Int32} (h : ∀ j, j < 26 → f j = g j) : ∀ j, j < 8 → p_hash f 0 j = p_hash g 0 j := hash_congr (fun j hj => by rw [Nat.zero_add]; exact h j hj)
theorem nz_eq2 {f g : Nat → Int32} (h : ∀ j, j < 25 → f j = g j) (v : Nat) : p_nz f v = p_nz g v := p_zeros_congr (hash_eq (upd_eq h))
theorem try_det {f g f' : Nat → Int32} {z t q t1 t2 : Nat} {k1 k2 : Int32} (e : ∀ v, p_nz f v = p_nz g v) (hb : t + q ≤ 100000) (h1 : q_try f z t q f' t1 k1) (h2 : r_try g z t q t2 k2) : t1 = t2 ∧ k1 = k2 ∧ t1 ≤ 100000 := by
  rcases h1 with ⟨a1, a2, a3, a4⟩ | ⟨v, a1, a2, a3, a4, a5, a6, -, -⟩
  · rcases h2 with ⟨b1, b2, b3⟩ | ⟨w, b1, b2, b3, b4, b5, b6⟩
    · exact ⟨by omega, by rw [a1, b1], by omega⟩
    · have := a4 w b1 b2; rw [e] at this; omega
  · rcases h2 with ⟨b1, b2, b3⟩ | ⟨w, b1, b2, b3, b4, b5, b6⟩
    · have := b3 v a1 a2; rw [← e] at this; omega
    · have hvw : v = w := by
        rcases Nat.lt_trichotomy v w with q1 | q1 | q1
        · have := b3 v a1 q1; rw [← e] at this; omega
        · exact q1
        · have := a3 w b1 q1; rw [e] at this; omega
      subst hvw
      exact ⟨by omega, by rw [a5, b5], by omega⟩
