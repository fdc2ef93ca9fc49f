/-! Class and reference, held against each other: pure. -/
def p_E (gc gw : Nat → Int32) (n k z : Nat) : Nat → Int32 := upd (p_ent gc gw n k) 24 (nI (16 * z + k))
def rep (fb gf : Nat → Int32) : Prop := ∀ b, b < 1024 → ((fb (b / 32) &&& p_msk b) = 0 ↔ gf b = 0)
def Rel (fb fc fd fr fp : Nat → Int32) (n k z t : Nat) (kn : Int32) (pl lf pn : Nat) (gc gd gw gf gp : Nat → Int32) : Prop :=
  (n ≤ 60 ∧ k ≤ 8 ∧ z ≤ 20 ∧ t ≤ 100000 ∧ pl ≤ 60 ∧ lf ≤ 6 ∧ pn ≤ 1560) ∧ (∀ j, j < 2040 → fc j = gc j) ∧ (∀ j, j < 8 → fd j = gd j) ∧ (∀ j, j < 8 → fr (16 + j) = if j < k then gw j else nI 0) ∧ rep fb gf ∧ (∀ j, j < pn → fp j = gp j) ∧
  (kn = (-1) ∨ ∃ v : Nat, v < 100000 ∧ kn = nI v ∧ (∀ j, j < 26 → fr j = upd (p_E gc gw n k z) 25 (nI v) j) ∧ ∀ j, j < 8 → fr (26 + j) = p_hash (upd (p_E gc gw n k z) 25 (nI v)) 0 j)
theorem m1_int : ((-1 : Int32)).toInt = -1 := by decide
/-- bits -/
theorem msk_32 : ∀ d, d < 32 → ∀ c, c < 32 → (((nI 1 <<< (nI d &&& 31)) &&& (nI 1 <<< (nI c &&& 31)) = 0) ↔ d ≠ c) := by decide +kernel
theorem msk_mod {b : Nat} (hb : b < 1024) : p_msk b = nI 1 <<< (nI (b % 32) &&& 31) := by
  rw [p_msk, pk_andN (by omega) (m := nI 31) 5 (by decide)]
theorem msk_all {b c : Nat} (hb : b < 1024) (hc : c < 1024) : (p_msk b &&& p_msk c = 0) ↔ b % 32 ≠ c % 32 := by
  rw [msk_mod hb, msk_mod hc]
  exact msk_32 _ (Nat.mod_lt _ (by decide)) _ (Nat.mod_lt _ (by decide))
theorem or_and0 (x y m : Int32) : ((x ||| y) &&& m = 0) ↔ (x &&& m = 0 ∧ y &&& m = 0) := by
  have e : (x ||| y) &&& m = (x &&& m) ||| (y &&& m) := by
    apply Int32.toBitVec_inj.mp
    simp only [Int32.toBitVec_and, Int32.toBitVec_or]
    exact BitVec.and_or_distrib_right
  rw [e]
  constructor
  · intro h
    have hb : ∀ i : Nat, ((x &&& m).toBitVec.getLsbD i || (y &&& m).toBitVec.getLsbD i) = false := by
      intro i
      have := congrArg (fun z : Int32 => z.toBitVec.getLsbD i) h
      simp only [Int32.toBitVec_or, BitVec.getLsbD_or] at this
      rw [this]
      simp
    refine ⟨Int32.toBitVec_inj.mp (BitVec.eq_of_getLsbD_eq (fun i _ => ?_)), Int32.toBitVec_inj.mp (BitVec.eq_of_getLsbD_eq (fun i _ => ?_))⟩
    · have := hb i
      rw [Bool.or_eq_false_iff] at this
      rw [this.1]; simp
    · have := hb i
      rw [Bool.or_eq_false_iff] at this
      rw [this.2]; simp
  · intro h
    rw [h.1, h.2]; decide
theorem rep_set {fb gf : Nat → Int32} (h : rep fb gf) {b : Nat} (hb : b < 1024) : rep (p_set fb b) (upd gf b (nI 1)) := by
  intro c hc
  have hm := msk_all hb hc
  by_cases q : c = b
  · subst q
    rw [pk_us, p_set, pk_us, or_and0]
    constructor
    · intro z; exact absurd (hm.mp z.2) (by omega)
    · intro z; exact absurd z (by decide)
  · rw [pk_un q]
    by_cases w : c / 32 = b / 32
    · rw [p_set, w, pk_us, or_and0, ← w, h c hc]
      constructor
      · intro z; exact z.1
      · intro z; exact ⟨z, hm.mpr (by omega)⟩
    · rw [p_set, pk_un w]; exact h c hc
theorem rep_inc {fb gf : Nat → Int32} (h : rep fb gf) (w : Int32) : ∀ i, rep (p_incN fb w i) (p_m4 gf w i)
  | 0 => h
  | i + 1 => rep_set (rep_inc h w i) (p_bit_lt _ _)
theorem rep_add {fb gf fc gc : Nat → Int32} (h : rep fb gf) {d y : Nat} : ∀ i, (∀ j, j < i → fc (d + j) = gc (34 * y + (16 + j))) → rep (p_addN fb fc d i) (p_m8 gf gc y i)
  | 0, _ => h
  | i + 1, e => by
    show rep (p_incN _ _ 4) (p_m4 _ _ 4)
    rw [e i (by omega)]
    exact rep_inc (rep_add h i (fun j hj => e j (by omega))) _ 4
theorem rep_rem {fb gf fc gc : Nat → Int32} (e : ∀ j, j < 2040 → fc j = gc j) : ∀ y, y ≤ 60 → rep (p_remN fb fc y) (p_mrm gf gc y)
  | 0, _ => by
    intro b hb
    show (p_fill fb 0 32 (nI 0) (b / 32) &&& p_msk b = 0) ↔ p_fill gf 0 1024 (nI 0) b = 0
    simp only [p_fill]
    rw [if_pos (by omega), if_pos (by omega)]
    have z : nI 0 &&& p_msk b = 0 := by
      apply Int32.toBitVec_inj.mp
      simp [nI]
    exact ⟨fun _ => rfl, fun _ => z⟩
  | y + 1, hy => rep_add (rep_rem e y (by omega)) 8 (fun j hj => by rw [show y * 34 + 16 + j = 34 * y + (16 + j) by omega]; exact e _ (by omega))
theorem may_eq {fb gf : Nat → Int32} (h : rep fb gf) (x : Int32) : allN (p_has fb x) 4 = allN (p_mh gf x) 4 := by
  refine allN_congr (fun i _ => ?_)
  have := h (p_bit x (nI i)) (p_bit_lt _ _)
  simp only [p_has, p_mh]
  by_cases q : gf (p_bit x (nI i)) = 0
  · rw [decide_eq_true q, decide_eq_true (this.mpr q)]
  · rw [decide_eq_false q, decide_eq_false (fun z => q (this.mp z))]
theorem hw_eq {fc gc : Nat → Int32} (e : ∀ j, j < 2040 → fc j = gc j) {y : Nat} (hy : y < 60) (x : Int32) : p_hw fc x y = p_hw gc x y := by
  simp only [p_hw, anyN]
  congr 1
  exact allN_congr (fun i hi => by rw [e _ (by omega)])
/-- the draft -/
theorem ent_eq {gc gw ge : Nat → Int32} {n k z j : Nat} (hj : j < 25) : p_F gc gw ge n k z j = p_E gc gw n k z j := by
  simp only [p_F, p_E]
  by_cases q : j = 24
  · rw [q, pk_us, pk_us]
  · rw [pk_un q, pk_un q]
    simp only [p_eN]
    rw [if_pos (by omega)]
theorem cph_out {fc fr : Nat → Int32} {n d j : Nat} {x : Int32} (h : j < d ∨ d + 8 ≤ j) : p_cph fc fr n x d j = fr j := by
  simp only [p_cph]
  split
  · exact pk_cpy_out h
  · simp only [p_fill]; rw [if_neg (by omega)]
theorem cph_in {fc fr : Nat → Int32} {n d j : Nat} {x : Int32} (h : j < 8) : p_cph fc fr n x d (d + j) = p_hc fc n x j := by
  simp only [p_cph, p_hc]
  split
  · rw [pk_cpy_in (by omega) (by omega)]; congr 1; omega
  · simp only [p_fill]; rw [if_pos (by omega)]
theorem drf_eq {fc fr gc gw : Nat → Int32} {n k z : Nat} (hn : n ≤ 60) (e : ∀ j, j < 2040 → fc j = gc j) (hr : ∀ j, j < 8 → fr (16 + j) = if j < k then gw j else nI 0) {j : Nat} (hj : j < 25) : p_drf fc fr n k z j = p_E gc gw n k z j := by
  simp only [p_drf, p_E]
  by_cases q : j = 24
  · rw [q, pk_us, pk_us]
  · rw [pk_un q, pk_un q]
    simp only [p_ent]
    by_cases h1 : j < 8
    · rw [if_pos h1, cph_out (by omega)]
      have c := cph_in (fc := fc) (fr := fr) (n := n) (d := 0) (x := nI n - nI 1) h1
      rw [Nat.zero_add] at c
      rw [c]
      by_cases w : n = 0
      · rw [if_pos w]; exact hdr_F w
      · rw [if_neg w, hdr_T (by omega) hn]; exact e _ (by omega)
    · rw [if_neg h1]
      by_cases h2 : j < 16
      · rw [if_pos h2]
        have c := cph_in (fc := fc) (fr := p_cph fc fr n (nI n - nI 1) 0) (n := n) (d := 8) (x := p_skI n) (j := j - 8) (by omega)
        rw [show 8 + (j - 8) = j by omega] at c
        rw [c]
        by_cases w : n = 0
        · rw [if_pos w, w]; exact hc_F (ok_m1 0)
        · have := sk_lt n (by omega) (by omega)
          rw [if_neg w, p_skI, if_neg w, hc_M (by omega) hn]; exact e _ (by omega)
      · rw [if_neg h2, cph_out (by omega), cph_out (by omega)]
        have := hr (j - 16) (by omega)
        rw [show 16 + (j - 16) = j by omega] at this
        exact this
theorem upd_eq {f g : Nat → Int32} {v : Int32} (h : ∀ j, j < 25 → f j = g j) : ∀ j, j < 26 → upd f 25 v j = upd g 25 v j := by
  intro j hj
  by_cases q : j = 25
  · rw [q, pk_us, pk_us]
  · rw [pk_un q, pk_un q]; exact h j (by omega)
theorem hash_eq {f g : Nat → Int32} (h : ∀ j, j < 26 → f j = g j) : ∀ j, j < 8 → p_hash f 0 j = p_hash g 0 j := hash_congr (fun j hj => by rw [Nat.zero_add]; exact h j hj)
theorem nz_eq2 {f g : Nat → Int32} (h : ∀ j, j < 25 → f j = g j) (v : Nat) : p_nz f v = p_nz g v := p_zeros_congr (hash_eq (upd_eq h))
theorem try_det {f g f' : Nat → Int32} {z t q t1 t2 : Nat} {k1 k2 : Int32} (e : ∀ v, p_nz f v = p_nz g v) (hb : t + q ≤ 100000) (h1 : q_try f z t q f' t1 k1) (h2 : r_try g z t q t2 k2) : t1 = t2 ∧ k1 = k2 ∧ t1 ≤ 100000 := by
  rcases h1 with ⟨a1, a2, a3, a4⟩ | ⟨v, a1, a2, a3, a4, a5, a6, -, -⟩
  · rcases h2 with ⟨b1, b2, b3⟩ | ⟨w, b1, b2, b3, b4, b5, b6⟩
    · exact ⟨by omega, by rw [a1, b1], by omega⟩
    · have := a4 w b1 b2; rw [e] at this; omega
  · rcases h2 with ⟨b1, b2, b3⟩ | ⟨w, b1, b2, b3, b4, b5, b6⟩
    · have := b3 v a1 a2; rw [← e] at this; omega
    · have hvw : v = w := by
        rcases Nat.lt_trichotomy v w with q1 | q1 | q1
        · have := b3 v a1 q1; rw [← e] at this; omega
        · exact q1
        · have := a3 w b1 q1; rw [e] at this; omega
      subst hvw
      exact ⟨by omega, by rw [a5, b5], by omega⟩
section RL
variable {fb fc fd fr fp gc gd gw gf gp ge : Nat → Int32} {n k z t pl lf pn : Nat} {kn : Int32}
theorem Rel.kn_neg (h : Rel fb fc fd fr fp n k z t kn pl lf pn gc gd gw gf gp) : kn.toInt < 0 → kn = (-1) := by
  obtain ⟨-, -, -, -, -, -, h7⟩ := h
  intro q
  rcases h7 with h | ⟨v, hv, h, -, -⟩
  · exact h
  · rw [h, tI_N (by omega)] at q; omega
theorem rel_put {fr' gw' : Nat → Int32} {k1 t1 k2 t2 : Nat} {x r1 r2 kn1 kn2 : Int32} (h : Rel fb fc fd fr fp n k z t kn pl lf pn gc gd gw gf gp) (h1 : q_put fr k t kn x r1 fr' k1 t1 kn1) (h2 : r_put gw k t kn x r2 gw' k2 t2 kn2) : r1 = r2 ∧ (k1 = k2 ∧ t1 = t2 ∧ kn1 = kn2) ∧ Rel fb fc fd fr' fp n k1 z t1 kn1 pl lf pn gc gd gw' gf gp := by
  obtain ⟨hB, hc, hd, hr, hf, hp, hk⟩ := h
  rcases h1 with ⟨a0, rfl, rfl, rfl, rfl, rfl⟩ | ⟨a0, rfl, rfl, rfl, rfl, rfl⟩
  · rcases h2 with ⟨b0, rfl, rfl, rfl, rfl, rfl⟩ | ⟨b0, -⟩
    · exact ⟨rfl, ⟨rfl, rfl, rfl⟩, hB, hc, hd, hr, hf, hp, hk⟩
    · omega
  · rcases h2 with ⟨b0, -⟩ | ⟨b0, rfl, rfl, rfl, rfl, rfl⟩
    · omega
    · refine ⟨rfl, ⟨rfl, rfl, rfl⟩, ⟨hB.1, by omega, hB.2.2.1, by omega, hB.2.2.2.2⟩, hc, hd, fun j hj => ?_, hf, hp, Or.inl rfl⟩
      by_cases q : j = k
      · rw [q, pk_us, if_pos (by omega), pk_us]
      · rw [pk_un (by omega), hr j hj, pk_un q]
        by_cases w : j < k
        · rw [if_pos w, if_pos (by omega)]
        · rw [if_neg w, if_neg (by omega)]
theorem rel_takeBack {fr' : Nat → Int32} {k1 t1 k2 t2 : Nat} {x r1 r2 kn1 kn2 : Int32} (h : Rel fb fc fd fr fp n k z t kn pl lf pn gc gd gw gf gp) (h1 : q_takeBack fr k t kn x r1 fr' k1 t1 kn1) (h2 : r_takeBack k t kn x r2 k2 t2 kn2) : r1 = r2 ∧ (k1 = k2 ∧ t1 = t2 ∧ kn1 = kn2) ∧ Rel fb fc fd fr' fp n k1 z t1 kn1 pl lf pn gc gd gw gf gp := by
  obtain ⟨hB, hc, hd, hr, hf, hp, hk⟩ := h
  rcases h1 with ⟨a0, rfl, rfl, rfl, rfl, rfl⟩ | ⟨j, a0, a1, rfl, rfl, rfl, rfl, rfl, rfl⟩
  · rcases h2 with ⟨b0, rfl, rfl, rfl, rfl⟩ | ⟨j, b0, b1, rfl, -⟩
    · exact ⟨rfl, ⟨rfl, rfl, rfl⟩, hB, hc, hd, hr, hf, hp, hk⟩
    · rw [tI_N (by omega)] at a0; omega
  · rcases h2 with ⟨b0, -⟩ | ⟨i, b0, b1, e, rfl, rfl, rfl, rfl⟩
    · rw [tI_N (by omega)] at b0; omega
    · have e2 : j = i := (nI_eq (by omega) (by omega)).mp e
      subst e2
      refine ⟨rfl, ⟨rfl, rfl, rfl⟩, ⟨hB.1, by omega, hB.2.2.1, by omega, hB.2.2.2.2⟩, hc, hd, fun i hi => ?_, hf, hp, Or.inl rfl⟩
      simp only [p_fill]
      by_cases q : i < k - j
      · rw [if_neg (by omega), if_pos q, hr i hi, if_pos (by omega)]
      · rw [if_pos (by omega), if_neg q]
theorem rel_difficulty {z1 t1 z2 t2 : Nat} {x r1 r2 kn1 kn2 : Int32} (h : Rel fb fc fd fr fp n k z t kn pl lf pn gc gd gw gf gp) (h1 : q_difficulty z t kn x r1 z1 t1 kn1) (h2 : q_difficulty z t kn x r2 z2 t2 kn2) : r1 = r2 ∧ (z1 = z2 ∧ t1 = t2 ∧ kn1 = kn2) ∧ Rel fb fc fd fr fp n k z1 t1 kn1 pl lf pn gc gd gw gf gp := by
  obtain ⟨hB, hc, hd, hr, hf, hp, hk⟩ := h
  rcases h1 with ⟨a0, rfl, rfl, rfl, rfl⟩ | ⟨j, a0, rfl, rfl, rfl, rfl, rfl⟩
  · rcases h2 with ⟨b0, rfl, rfl, rfl, rfl⟩ | ⟨j, b0, rfl, -⟩
    · exact ⟨rfl, ⟨rfl, rfl, rfl⟩, hB, hc, hd, hr, hf, hp, hk⟩
    · rw [tI_N (by omega)] at a0; omega
  · rcases h2 with ⟨b0, -⟩ | ⟨i, b0, e, rfl, rfl, rfl, rfl⟩
    · rw [tI_N (by omega)] at b0; omega
    · have e2 : z1 = i := (nI_eq (by omega) (by omega)).mp e
      subst e2
      exact ⟨rfl, ⟨rfl, rfl, rfl⟩, ⟨hB.1, hB.2.1, a0, by omega, hB.2.2.2.2⟩, hc, hd, hr, hf, hp, Or.inl rfl⟩
theorem rel_mine {fr' : Nat → Int32} {t1 t2 : Nat} {x r1 r2 kn1 kn2 : Int32} (h : Rel fb fc fd fr fp n k z t kn pl lf pn gc gd gw gf gp) (h1 : q_mine2 fc fr n k z t kn x r1 fr' t1 kn1) (h2 : r_mine2 (p_F gc gw ge n k z) z t kn x r2 t2 kn2) : r1 = r2 ∧ (t1 = t2 ∧ kn1 = kn2) ∧ Rel fb fc fd fr' fp n k z t1 kn1 pl lf pn gc gd gw gf gp := by
  have hneg := h.kn_neg
  obtain ⟨hB, hc, hd, hr, hf, hp, hk⟩ := h
  rcases h1 with ⟨a0, rfl, rfl, rfl, rfl⟩ | ⟨a0, h1⟩
  · rcases h2 with ⟨b0, rfl, rfl, rfl⟩ | ⟨b0, -⟩
    · exact ⟨rfl, ⟨rfl, rfl⟩, hB, hc, hd, hr, hf, hp, hk⟩
    · omega
  · rcases h2 with ⟨b0, -⟩ | ⟨b0, h2⟩
    · omega
    · rcases h1 with ⟨a1, rfl, rfl, rfl, rfl⟩ | ⟨a1, h1⟩
      · rcases h2 with ⟨b1, rfl, rfl, rfl⟩ | ⟨b1, -⟩
        · exact ⟨rfl, ⟨rfl, rfl⟩, hB, hc, hd, hr, hf, hp, hk⟩
        · exact absurd (hneg b1) a1
      · rcases h2 with ⟨b1, -⟩ | ⟨b1, h2⟩
        · rw [a1, m1_int] at b1; omega
        · rcases h1 with ⟨a2, rfl, rfl, rfl, rfl⟩ | ⟨a2, q, a3, rfl, hq, rfl⟩
          · rcases h2 with ⟨b2, rfl, rfl, rfl⟩ | ⟨b2, -⟩
            · exact ⟨rfl, ⟨rfl, rfl⟩, hB, hc, hd, hr, hf, hp, hk⟩
            · omega
          · rcases h2 with ⟨b2, -⟩ | ⟨b2, q2, b3, e, hq2, rfl⟩
            · omega
            · have e2 : q = q2 := (nI_eq (by omega) (by omega)).mp e
              subst e2
              have eF : ∀ j, j < 25 → p_drf fc fr n k z j = p_F gc gw ge n k z j := fun j hj => (drf_eq hB.1 hc hr hj).trans (ent_eq hj).symm
              obtain ⟨rfl, rfl, ht⟩ := try_det (fun v => nz_eq2 eF v) (by omega) hq hq2
              refine ⟨rfl, ⟨rfl, rfl⟩, ⟨hB.1, hB.2.1, hB.2.2.1, ht, hB.2.2.2.2⟩, hc, hd, fun j hj => ?_, hf, hp, ?_⟩
              · have ed : p_drf fc fr n k z (16 + j) = if j < k then gw j else nI 0 := by
                  simp only [p_drf]
                  rw [pk_un (by omega), cph_out (by omega), cph_out (by omega)]
                  exact hr j hj
                rcases hq with ⟨-, -, w, -⟩ | ⟨v, -, -, -, -, -, -, w, -⟩
                · rw [w _ (by omega)]; exact ed
                · rw [w _ (by omega), pk_un (by omega)]; exact ed
              · rcases hq with ⟨w, -⟩ | ⟨v, w1, w2, -, -, w5, -, w7, w8⟩
                · exact Or.inl w
                · have eE : ∀ j, j < 25 → p_drf fc fr n k z j = p_E gc gw n k z j := fun j hj => drf_eq hB.1 hc hr hj
                  exact Or.inr ⟨v, by omega, w5, fun j hj => (w7 j hj).trans (upd_eq eE j hj), fun j hj => (w8 j hj).trans (hash_eq (upd_eq eE) j hj)⟩
theorem rel_commit {fb' fc' fd' fr' gc' gd' gf' : Nat → Int32} {n1 k1 t1 n2 k2 t2 : Nat} {r1 r2 kn1 kn2 : Int32} (h : Rel fb fc fd fr fp n k z t kn pl lf pn gc gd gw gf gp) (h1 : q_commit fb fc fd fr n k t kn r1 fb' fc' fd' fr' n1 k1 t1 kn1) (h2 : r_commit gc gd gw gf ge n k z t kn r2 gc' gd' gf' n2 k2 t2 kn2) : r1 = r2 ∧ (n1 = n2 ∧ k1 = k2 ∧ t1 = t2 ∧ kn1 = kn2) ∧ Rel fb' fc' fd' fr' fp n1 k1 z t1 kn1 pl lf pn gc' gd' gw gf' gp := by
  have hneg := h.kn_neg
  obtain ⟨hB, hc, hd, hr, hf, hp, hk⟩ := h
  rcases h1 with ⟨a0, rfl, rfl, rfl, rfl, rfl, rfl, rfl, rfl, rfl⟩ | ⟨a0, h1⟩
  · rcases h2 with ⟨b0, rfl, rfl, rfl, rfl, rfl, rfl, rfl, rfl⟩ | ⟨b0, -⟩
    · exact ⟨rfl, ⟨rfl, rfl, rfl, rfl⟩, hB, hc, hd, hr, hf, hp, hk⟩
    · omega
  · rcases h2 with ⟨b0, -⟩ | ⟨b0, h2⟩
    · omega
    · rcases h1 with ⟨a1, rfl, rfl, rfl, rfl, rfl, rfl, rfl, rfl, rfl⟩ | ⟨a1, rfl, rfl, rfl, rfl, rfl, rfl, rfl, rfl, rfl⟩
      · rcases h2 with ⟨b1, rfl, rfl, rfl, rfl, rfl, rfl, rfl, rfl⟩ | ⟨b1, -⟩
        · exact ⟨rfl, ⟨rfl, rfl, rfl, rfl⟩, hB, hc, hd, hr, hf, hp, hk⟩
        · rw [a1, m1_int] at b1; omega
      · rcases h2 with ⟨b1, -⟩ | ⟨b1, hh, b2, rfl, rfl, rfl, rfl, rfl, rfl, rfl, rfl⟩
        · exact absurd (hneg b1) a1
        · rcases hk with hk | ⟨v, hv, rfl, k5, k6⟩
          · exact absurd hk a1
          · have eE : ∀ j, j < 26 → fr j = upd (p_F gc gw ge n k z) 25 (nI v) j := fun j hj => (k5 j hj).trans (upd_eq (fun i hi => (ent_eq hi).symm) j hj)
            have eH : ∀ j, j < 8 → fr (26 + j) = hh j := fun j hj => (k6 j hj).trans ((hash_eq (upd_eq (fun i hi => (ent_eq (ge := ge) hi).symm)) j hj).trans (b2 j hj).symm)
            have eC : ∀ j, j < 2040 → va_cpy fr fc 0 (n * 34) 34 j = va_cpy hh (va_cpy (upd (p_F gc gw ge n k z) 25 (nI v)) gc 0 (34 * n) 26) 0 (34 * n + 26) 8 j := by
              intro j hj
              by_cases q1 : n * 34 ≤ j ∧ j < n * 34 + 34
              · rw [pk_cpy_in q1.1 q1.2]
                by_cases q2 : j < 34 * n + 26
                · rw [pk_cpy_out (by omega), pk_cpy_in (by omega) (by omega), show 0 + (j - 34 * n) = 0 + (j - n * 34) by omega]
                  exact eE _ (by omega)
                · rw [pk_cpy_in (by omega) (by omega)]
                  have := eH (j - (34 * n + 26)) (by omega)
                  rw [show 26 + (j - (34 * n + 26)) = 0 + (j - n * 34) by omega] at this
                  rw [this, Nat.zero_add]
              · rw [pk_cpy_out (by omega), pk_cpy_out (by omega), pk_cpy_out (by omega)]
                exact hc j hj
            refine ⟨rfl, ⟨rfl, rfl, rfl, rfl⟩, ⟨by omega, by omega, hB.2.2.1, by omega, hB.2.2.2.2⟩, eC, fun j hj => ?_, fun j hj => ?_, ?_, hp, Or.inl rfl⟩
            · rw [cpy_0 hj, cpy_00 hj]; exact eH j hj
            · simp only [p_fill]
              rw [if_pos (by omega), if_neg (by omega)]
            · exact rep_add hf 8 (fun j hj => by rw [show 34 * n + (16 + j) = n * 34 + 16 + j by omega]; exact eC _ (by omega))
theorem rel_spoil {fc' gc' : Nat → Int32} {t1 t2 : Nat} {x y w r1 r2 kn1 kn2 : Int32} (h : Rel fb fc fd fr fp n k z t kn pl lf pn gc gd gw gf gp) (h1 : q_spoil fc n t kn x y w r1 fc' t1 kn1) (h2 : r_spoil gc n t kn x y w r2 gc' t2 kn2) : r1 = r2 ∧ (t1 = t2 ∧ kn1 = kn2) ∧ Rel fb fc' fd fr fp n k z t1 kn1 pl lf pn gc' gd gw gf gp := by
  obtain ⟨hB, hc, hd, hr, hf, hp, hk⟩ := h
  rcases h1 with ⟨a0, rfl, rfl, rfl, rfl⟩ | ⟨i, j, a0, a1, rfl, rfl, rfl, rfl, rfl, rfl⟩
  · rcases h2 with ⟨b0, rfl, rfl, rfl, rfl⟩ | ⟨i, j, b0, b1, rfl, rfl, -⟩
    · exact ⟨rfl, ⟨rfl, rfl⟩, hB, hc, hd, hr, hf, hp, hk⟩
    · rw [ok_N (by omega), ok_N (by omega), decide_eq_true b0, decide_eq_true b1] at a0; cases a0
  · rcases h2 with ⟨b0, -⟩ | ⟨i2, j2, b0, b1, e1, e2, rfl, rfl, rfl, rfl⟩
    · rw [ok_N (by omega), ok_N (by omega), decide_eq_true a0, decide_eq_true a1] at b0; cases b0
    · have e3 : i = i2 := (nI_eq (by omega) (by omega)).mp e1
      have e4 : j = j2 := (nI_eq (by omega) (by omega)).mp e2
      subst e3; subst e4
      refine ⟨by rw [hc _ (by omega), Nat.mul_comm], ⟨rfl, rfl⟩, ⟨hB.1, hB.2.1, hB.2.2.1, by omega, hB.2.2.2.2⟩, fun a ha => ?_, hd, hr, hf, hp, Or.inl rfl⟩
      rw [Nat.mul_comm i 34]
      by_cases q : a = 34 * i + j
      · rw [q, pk_us, pk_us]
      · rw [pk_un q, pk_un q]; exact hc a ha
theorem rel_drop {fb' fd' gd' gf' : Nat → Int32} {n1 t1 pl1 n2 t2 pl2 : Nat} {r1 r2 kn1 kn2 : Int32} (h : Rel fb fc fd fr fp n k z t kn pl lf pn gc gd gw gf gp) (h1 : q_drop fb fc fd n t kn pl r1 fb' fd' n1 t1 kn1 pl1) (h2 : r_drop gc gd gf n t kn pl r2 gd' gf' n2 t2 kn2 pl2) : r1 = r2 ∧ (n1 = n2 ∧ t1 = t2 ∧ kn1 = kn2 ∧ pl1 = pl2) ∧ Rel fb' fc fd' fr fp n1 k z t1 kn1 pl1 lf pn gc gd' gw gf' gp := by
  obtain ⟨hB, hc, hd, hr, hf, hp, hk⟩ := h
  rcases h1 with ⟨a0, rfl, rfl, rfl, rfl, rfl, rfl, rfl⟩ | ⟨a0, rfl, rfl, rfl, rfl, rfl, rfl, rfl⟩
  · rcases h2 with ⟨b0, rfl, rfl, rfl, rfl, rfl, rfl, rfl⟩ | ⟨b0, -⟩
    · exact ⟨rfl, ⟨rfl, rfl, rfl, rfl⟩, hB, hc, hd, hr, hf, hp, hk⟩
    · omega
  · rcases h2 with ⟨b0, -⟩ | ⟨b0, rfl, rfl, rfl, rfl, rfl, rfl, rfl⟩
    · omega
    · refine ⟨rfl, ⟨rfl, rfl, rfl, rfl⟩, ⟨by omega, hB.2.1, hB.2.2.1, by omega, by omega, hB.2.2.2.2.2⟩, hc, fun j hj => ?_, hr, rep_rem hc _ (by omega), hp, Or.inl rfl⟩
      rw [cpy_0 hj, cpy_0 hj, show (n - 1) * 34 + 0 + j = 34 * (n - 1) + j by omega]
      exact hc _ (by omega)
theorem rel_find {x r1 r2 : Int32} (h : Rel fb fc fd fr fp n k z t kn pl lf pn gc gd gw gf gp) (h1 : q_find fb fc n x r1) (h2 : r_find gf gc n x r2) : r1 = r2 := by
  obtain ⟨hB, hc, hd, hr, hf, hp, hk⟩ := h
  rw [r_find, ← may_eq hf] at h2
  have e : ∀ y, y < n → p_hw fc x y = p_hw gc x y := fun y hy => hw_eq hc (by omega) x
  rcases h1 with ⟨a0, rfl⟩ | ⟨a0, h1⟩
  · rcases h2 with ⟨b0, rfl⟩ | ⟨b0, -⟩
    · rfl
    · rw [a0] at b0; cases b0
  · rcases h2 with ⟨b0, -⟩ | ⟨b0, h2⟩
    · rw [a0] at b0; cases b0
    · rcases h1 with ⟨y, y1, rfl, y3, y4⟩ | ⟨rfl, y4⟩
      · rcases h2 with ⟨w, w1, rfl, w3, w4⟩ | ⟨rfl, w4⟩
        · have : y = w := by
            rcases Nat.lt_trichotomy y w with q | q | q
            · have := w4 y q; rw [← e y y1, y3] at this; cases this
            · exact q
            · have := y4 w q; rw [e w w1, w3] at this; cases this
          rw [this]
        · have := w4 y y1; rw [← e y y1, y3] at this; cases this
      · rcases h2 with ⟨w, w1, rfl, w3, w4⟩ | ⟨rfl, w4⟩
        · have := y4 w w1; rw [e w w1, w3] at this; cases this
        · rfl
theorem hc_eq (hc : ∀ j, j < 2040 → fc j = gc j) (hn : n ≤ 60) (x : Int32) {i : Nat} (hi : i < 8) : p_hc fc n x i = p_hc gc n x i := by
  cases q : p_ok x n with
  | false => rw [hc_F q, hc_F q]
  | true =>
    obtain ⟨j, hj, rfl⟩ := ok_of (by omega) q
    rw [hc_T hj hn, hc_T hj hn]; exact hc _ (by omega)
theorem flt_eq (hc : ∀ j, j < 2040 → fc j = gc j) (hn : n ≤ 60) {y : Nat} (hy : y < n) : p_flt fc n y = p_flt gc n y := by
  have e1 : ∀ (x : Int32) (d : Nat), d + 8 ≤ 2040 → allN (p_iho fc n x fc d) 8 = allN (p_iho gc n x gc d) 8 := fun x d hd => allN_congr (fun i hi => by simp only [p_iho]; rw [hc _ (by omega), hc_eq hc hn x hi])
  have eh : ∀ j, j < 8 → p_hash fc (y * 34) j = p_hash gc (y * 34) j := hash_congr (fun j hj => hc _ (by omega))
  have e2 : allN (p_is (p_hash fc (y * 34)) fc (y * 34 + 26)) 8 = allN (p_is (p_hash gc (y * 34)) gc (y * 34 + 26)) 8 := allN_congr (fun i hi => by simp only [p_is]; rw [hc _ (by omega), eh i hi])
  simp only [p_flt]
  rw [e1 _ _ (by omega), e1 _ _ (by omega), e2, p_zeros_congr eh, hc _ (by omega)]
theorem aud_eq (hc : ∀ j, j < 2040 → fc j = gc j) (hd : ∀ j, j < 8 → fd j = gd j) (hn : n ≤ 60) : ∀ q pl, p_aud fc fd n q pl = p_aud gc gd n q pl
  | 0, pl => rfl
  | q + 1, pl => by
    have eh : p_hdr fc fd n = p_hdr gc gd n := allN_congr (fun i hi => by simp only [p_iho]; rw [Nat.zero_add, hd i hi, hc_eq hc hn _ hi])
    rw [p_aud, p_aud, eh]
    by_cases h : n ≤ pl
    · rw [if_pos h, if_pos h]
    · rw [if_neg h, if_neg h, flt_eq hc hn (by omega), aud_eq hc hd hn q (pl + 1)]
theorem aud_le : ∀ q pl, pl ≤ 60 → n ≤ 60 → (p_aud gc gd n q pl).2.1 ≤ 60 ∧ (p_aud gc gd n q pl).2.2 ≤ 6
  | 0, pl, h, _ => ⟨h, Nat.zero_le _⟩
  | q + 1, pl, h, hn => by
    rw [p_aud]
    by_cases w : n ≤ pl
    · rw [if_pos w]
      split
      · exact ⟨h, Nat.zero_le _⟩
      · refine ⟨h, ?_⟩
        show (if n = 0 then 6 else 5) ≤ 6
        split <;> omega
    · rw [if_neg w]
      split
      · exact aud_le q (pl + 1) (by omega) hn
      · exact ⟨h, by have := p_flt_le gc n pl; show p_flt gc n pl ≤ 6; omega⟩
theorem rel_audit {pl1 lf1 pl2 lf2 : Nat} {x r1 r2 : Int32} (h : Rel fb fc fd fr fp n k z t kn pl lf pn gc gd gw gf gp) (h1 : q_audit fc fd n pl lf x r1 pl1 lf1) (h2 : q_audit gc gd n pl lf x r2 pl2 lf2) : r1 = r2 ∧ (pl1 = pl2 ∧ lf1 = lf2) ∧ Rel fb fc fd fr fp n k z t kn pl1 lf1 pn gc gd gw gf gp := by
  obtain ⟨hB, hc, hd, hr, hf, hp, hk⟩ := h
  rcases h1 with ⟨a0, rfl, rfl, rfl⟩ | ⟨q, a1, a2, rfl, a3⟩
  · rcases h2 with ⟨b0, rfl, rfl, rfl⟩ | ⟨q, b1, b2, rfl, -⟩
    · exact ⟨rfl, ⟨rfl, rfl⟩, hB, hc, hd, hr, hf, hp, hk⟩
    · rw [tI_N (by omega)] at a0; omega
  · rcases h2 with ⟨b0, -⟩ | ⟨q2, b1, b2, e, b3⟩
    · rw [tI_N (by omega)] at b0; omega
    · have e2 : q = q2 := (nI_eq (by omega) (by omega)).mp e
      subst e2
      rw [aud_eq hc hd hB.1, ← b3] at a3
      obtain ⟨rfl, rfl, rfl⟩ : r1 = r2 ∧ pl1 = pl2 ∧ lf1 = lf2 := by
        injection a3 with u1 u2
        injection u2 with u2 u3
        exact ⟨u1, u2, u3⟩
      have hl := aud_le (gc := gc) (gd := gd) (n := n) q pl (by omega) (by omega)
      rw [← b3] at hl
      exact ⟨rfl, ⟨rfl, rfl⟩, ⟨hB.1, hB.2.1, hB.2.2.1, hB.2.2.2.1, hl.1, hl.2, hB.2.2.2.2.2.2⟩, hc, hd, hr, hf, hp, hk⟩
theorem rel_way {x w r1 r2 : Int32} (hn : n ≤ 60) (h1 : q_way n x w r1) (h2 : q_way n x w r2) : r1 = r2 := by
  rcases h1 with ⟨a0, rfl⟩ | ⟨y, K, a1, rfl, a2, h1⟩
  · rcases h2 with ⟨b0, rfl⟩ | ⟨y, K, b1, rfl, -⟩
    · rfl
    · rw [ok_N (by omega), decide_eq_true b1] at a0; cases a0
  · rcases h2 with ⟨b0, -⟩ | ⟨y2, K2, b1, e, b2, h2⟩
    · rw [ok_N (by omega), decide_eq_true a1] at b0; cases b0
    · have e2 : y = y2 := (nI_eq (by omega) (by omega)).mp e
      subst e2
      have e3 : K = K2 := end_1 a2 b2
      subst e3
      have hKl := end_le (i := K) hn a2 (Nat.le_refl _)
      rcases h1 with ⟨c0, rfl⟩ | ⟨j, c1, rfl, rfl⟩
      · rcases h2 with ⟨d0, rfl⟩ | ⟨j, d1, rfl, rfl⟩
        · rfl
        · rw [tI_N (by omega)] at c0; omega
      · rcases h2 with ⟨d0, rfl⟩ | ⟨j2, d1, e4, rfl⟩
        · rw [tI_N (by omega)] at d0; omega
        · have e5 : j = j2 := (nI_eq (by omega) (by omega)).mp e4
          rw [e5]
theorem rel_prove {fp' gp' : Nat → Int32} {pn1 pn2 : Nat} {x r1 r2 : Int32} (h : Rel fb fc fd fr fp n k z t kn pl lf pn gc gd gw gf gp) (h1 : q_prove fc fp n pn x r1 fp' pn1) (h2 : q_prove gc gp n pn x r2 gp' pn2) : r1 = r2 ∧ pn1 = pn2 ∧ Rel fb fc fd fr fp' n k z t kn pl lf pn1 gc gd gw gf gp' := by
  obtain ⟨hB, hc, hd, hr, hf, hp, hk⟩ := h
  rcases h1 with ⟨a0, rfl, rfl, rfl⟩ | ⟨y, K, a1, rfl, a2, rfl, rfl, a3⟩
  · rcases h2 with ⟨b0, rfl, rfl, rfl⟩ | ⟨y, K, b1, rfl, -⟩
    · exact ⟨rfl, rfl, hB, hc, hd, hr, hf, hp, hk⟩
    · rw [ok_N (by omega), decide_eq_true b1] at a0; cases a0
  · rcases h2 with ⟨b0, -⟩ | ⟨y2, K2, b1, e, b2, rfl, rfl, b3⟩
    · rw [ok_N (by omega), decide_eq_true a1] at b0; cases b0
    · have e2 : y = y2 := (nI_eq (by omega) (by omega)).mp e
      subst e2
      have e3 : K = K2 := end_1 a2 b2
      subst e3
      have hKl := end_le (i := K) hB.1 a2 (Nat.le_refl _)
      refine ⟨rfl, rfl, ⟨hB.1, hB.2.1, hB.2.2.1, hB.2.2.2.1, hB.2.2.2.2.1, hB.2.2.2.2.2.1, by omega⟩, hc, hd, hr, hf, fun j hj => ?_, hk⟩
      have e4 : j = 26 * (j / 26) + j % 26 := (Nat.div_add_mod j 26).symm
      have hw := end_le (i := j / 26) hB.1 a2 (by omega)
      rw [e4, a3 (j / 26) (j % 26) (by omega) (by omega), b3 (j / 26) (j % 26) (by omega) (by omega)]
      exact hc _ (by omega)
theorem rel_forge {fp' gp' : Nat → Int32} {x w r1 r2 : Int32} (h : Rel fb fc fd fr fp n k z t kn pl lf pn gc gd gw gf gp) (h1 : q_forge fp pn x w r1 fp') (h2 : q_forge gp pn x w r2 gp') : r1 = r2 ∧ Rel fb fc fd fr fp' n k z t kn pl lf pn gc gd gw gf gp' := by
  obtain ⟨hB, hc, hd, hr, hf, hp, hk⟩ := h
  rcases h1 with ⟨a0, rfl, rfl⟩ | ⟨j, a0, rfl, rfl, rfl⟩
  · rcases h2 with ⟨b0, rfl, rfl⟩ | ⟨j, b0, rfl, -⟩
    · exact ⟨rfl, hB, hc, hd, hr, hf, hp, hk⟩
    · rw [ok_N (by omega), decide_eq_true b0] at a0; cases a0
  · rcases h2 with ⟨b0, -⟩ | ⟨i, b0, e, rfl, rfl⟩
    · rw [ok_N (by omega), decide_eq_true a0] at b0; cases b0
    · have e2 : j = i := (nI_eq (by omega) (by omega)).mp e
      subst e2
      refine ⟨hp j a0, hB, hc, hd, hr, hf, fun a ha => ?_, hk⟩
      by_cases q : a = j
      · rw [q, pk_us, pk_us]
      · rw [pk_un q, pk_un q]; exact hp a ha
theorem rel_check {x r1 r2 : Int32} (h : Rel fb fc fd fr fp n k z t kn pl lf pn gc gd gw gf gp) (h1 : q_check fd fp n pn x r1) (h2 : q_check gd gp n pn x r2) : r1 = r2 := by
  obtain ⟨hB, hc, hd, hr, hf, hp, hk⟩ := h
  rcases h1 with ⟨a0, rfl⟩ | ⟨y, K, a1, rfl, a2, rfl⟩
  · rcases h2 with ⟨b0, rfl⟩ | ⟨y, K, b1, rfl, -⟩
    · rfl
    · rw [ok_N (by omega), decide_eq_true b1] at a0; cases a0
  · rcases h2 with ⟨b0, -⟩ | ⟨y2, K2, b1, e, b2, rfl⟩
    · rw [ok_N (by omega), decide_eq_true a1] at b0; cases b0
    · have e2 : y = y2 := (nI_eq (by omega) (by omega)).mp e
      subst e2
      have e3 : K = K2 := end_1 a2 b2
      subst e3
      by_cases q : pn = 26 * (K + 1)
      · rw [decide_eq_true q, Bool.true_and, Bool.true_and]
        congr 1
        refine allN_congr (fun i hi => ?_)
        refine allN_congr (fun j hj => ?_)
        have eh : p_hash fp (26 * i) j = p_hash gp (26 * i) j := hash_congr (fun a ha => hp _ (by omega)) j hj
        have ed : p_due fd fp (n - 1) y i j = p_due gd gp (n - 1) y i j := by
          cases i with
          | zero => exact hd j hj
          | succ i =>
            show fp _ = gp _
            refine hp _ ?_
            split <;> omega
        rw [eh, ed]
      · rw [decide_eq_false q]; rfl
theorem rel_begin (h : Rel fb fc fd fr fp n k z t kn pl lf pn gc gd gw gf gp) : Rel fb fc fd fr fp n k z t kn 0 lf pn gc gd gw gf gp := by
  obtain ⟨hB, hc, hd, hr, hf, hp, hk⟩ := h
  exact ⟨⟨hB.1, hB.2.1, hB.2.2.1, hB.2.2.2.1, by omega, hB.2.2.2.2.2⟩, hc, hd, hr, hf, hp, hk⟩
theorem rel_pending (h : Rel fb fc fd fr fp n k z t kn pl lf pn gc gd gw gf gp) (x : Int32) : (if p_ok x k then fr (16 + p_ix x) else nI 0) = (if p_ok x k then gw (p_ix x) else nI 0) := by
  obtain ⟨hB, hc, hd, hr, hf, hp, hk⟩ := h
  cases q : p_ok x k with
  | false => rfl
  | true =>
    obtain ⟨j, hj, rfl⟩ := ok_of (by omega) q
    rw [if_pos rfl, if_pos rfl, ix_N hj (by omega), hr j (by omega), if_pos hj]
theorem rel_head (h : Rel fb fc fd fr fp n k z t kn pl lf pn gc gd gw gf gp) (x : Int32) : (if p_ok x 8 then fd (p_ix x) else nI 0) = (if p_ok x 8 then gd (p_ix x) else nI 0) := by
  obtain ⟨hB, hc, hd, hr, hf, hp, hk⟩ := h
  cases q : p_ok x 8 with
  | false => rfl
  | true =>
    obtain ⟨j, hj, rfl⟩ := ok_of (n := 8) (by omega) q
    rw [if_pos rfl, if_pos rfl, ix_N hj (by omega), hd j hj]
theorem rel_proof (h : Rel fb fc fd fr fp n k z t kn pl lf pn gc gd gw gf gp) (x : Int32) : (if p_ok x pn then fp (p_ix x) else nI 0) = (if p_ok x pn then gp (p_ix x) else nI 0) := by
  obtain ⟨hB, hc, hd, hr, hf, hp, hk⟩ := h
  cases q : p_ok x pn with
  | false => rfl
  | true =>
    obtain ⟨j, hj, rfl⟩ := ok_of (by omega) q
    rw [if_pos rfl, if_pos rfl, ix_N hj (by omega), hp j hj]
theorem rel_cell (h : Rel fb fc fd fr fp n k z t kn pl lf pn gc gd gw gf gp) (x y : Int32) : (if (p_ok x n && p_ok y 34) then fc (p_ix x * 34 + p_ix y) else nI 0) = (if (p_ok x n && p_ok y 34) then gc (34 * p_ix x + p_ix y) else nI 0) := by
  obtain ⟨hB, hc, hd, hr, hf, hp, hk⟩ := h
  cases q : (p_ok x n && p_ok y 34) with
  | false => rfl
  | true =>
    rw [Bool.and_eq_true] at q
    obtain ⟨i, hi, rfl⟩ := ok_of (by omega) q.1
    obtain ⟨j, hj, rfl⟩ := ok_of (n := 34) (by omega) q.2
    rw [if_pos rfl, if_pos rfl, ix_N hi (by omega), ix_N (n := 34) hj (by omega), hc _ (by omega), Nat.mul_comm]
theorem rel_start (d : Nat) (hd : d ≤ 20) : Rel (fun _ => 0) (fun _ => 0) (fun _ => 0) (fun _ => 0) (fun _ => 0) 0 0 d 0 (-1) 0 0 0 (fun _ => 0) (fun _ => 0) (fun _ => 0) (fun _ => 0) (fun _ => 0) := by
  refine ⟨⟨by omega, by omega, hd, by omega, by omega, by omega, by omega⟩, fun _ _ => rfl, fun _ _ => rfl, fun j _ => by rw [if_neg (by omega)]; rfl, fun b hb => ?_, fun _ _ => rfl, Or.inl rfl⟩
  have z : (0 : Int32) &&& p_msk b = 0 := by
    apply Int32.toBitVec_inj.mp
    simp
  exact ⟨fun _ => rfl, fun _ => z⟩
end RL
