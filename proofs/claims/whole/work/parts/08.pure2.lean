def p_h1 (f : Nat → Int32) (k : Nat) : Nat → Int32 := p_mix st_S (fun i => f (k + i))
def p_b2 (f : Nat → Int32) (k : Nat) : Nat → Int32 := fun j => if j < 10 then f (k + 16 + j) else if j = 10 then (-2147483648) else if j = 15 then nI 832 else nI 0
def p_hash (f : Nat → Int32) (k : Nat) : Nat → Int32 := p_mix (p_h1 f k) (p_b2 f k)
def p_is (g f : Nat → Int32) (k : Nat) (i : Nat) : Bool := decide (f (k + i) = g i)
theorem p_spr_congr {w v : Nat → Int32} (h : ∀ j, j < 16 → w j = v j) : ∀ k j, j < 16 + k → p_sprN w k j = p_sprN v k j
  | 0, j, hj => h j (by omega)
  | k + 1, j, hj => by
    have ih := p_spr_congr h k
    by_cases q : j = 16 + k
    · subst q
      show upd _ _ _ _ = upd _ _ _ _
      rw [pk_us, pk_us]
      simp only [p_nw]
      rw [ih (16 + k - 16) (by omega), ih (16 + k - 15) (by omega), ih (16 + k - 7) (by omega), ih (16 + k - 2) (by omega)]
    · show upd _ _ _ _ = upd _ _ _ _
      rw [pk_un q, pk_un q]
      exact ih j (by omega)
theorem p_rs_congr {w v : Nat → Int32} (s : p_T) (N : Nat) (h : ∀ j, j < N → w j = v j) : ∀ n, n ≤ N → p_rs w s n = p_rs v s n
  | 0, _ => rfl
  | n + 1, hn => by
    show p_rnd _ _ _ = p_rnd _ _ _
    rw [p_rs_congr s N h n (by omega), h n (by omega)]
theorem p_mix_congr {h g w v : Nat → Int32} (hh : ∀ j, j < 8 → h j = g j) (hw : ∀ j, j < 16 → w j = v j) : ∀ j, j < 8 → p_mix h w j = p_mix g v j := by
  have et : p_tup h = p_tup g := by
    simp only [p_tup]
    rw [hh 0 (by decide), hh 1 (by decide), hh 2 (by decide), hh 3 (by decide), hh 4 (by decide), hh 5 (by decide), hh 6 (by decide), hh 7 (by decide)]
  have er : p_rs (p_w w) (p_tup h) 64 = p_rs (p_w v) (p_tup g) 64 := by
    rw [et]
    exact p_rs_congr _ 64 (fun j hj => p_spr_congr hw 48 j (by omega)) 64 (Nat.le_refl _)
  intro j hj
  simp only [p_mix]
  rw [er]
  generalize p_rs (p_w v) (p_tup g) 64 = t
  have e := hh j hj
  match j, hj, e with
  | 0, _, e => simp [p_add, upd, e]
  | 1, _, e => simp [p_add, upd, e]
  | 2, _, e => simp [p_add, upd, e]
  | 3, _, e => simp [p_add, upd, e]
  | 4, _, e => simp [p_add, upd, e]
  | 5, _, e => simp [p_add, upd, e]
  | 6, _, e => simp [p_add, upd, e]
  | 7, _, e => simp [p_add, upd, e]
theorem p_b2_ok (f g : Nat → Int32) (k : Nat) : ∀ j, j < 16 → upd (p_fill (upd (va_cpy f g (k + 16) 0 10) 10 (-2147483648)) (10 + 1) 15 (nI 0)) 15 (nI 832) j = p_b2 f k j := by
  intro j hj
  by_cases h15 : j = 15
  · subst h15; rw [pk_us]; rfl
  · rw [pk_un h15]
    simp only [p_fill]
    by_cases h11 : 10 + 1 ≤ j ∧ j < 15
    · rw [if_pos h11]
      simp only [p_b2]
      rw [if_neg (by omega), if_neg (by omega), if_neg h15]
    · rw [if_neg h11]
      by_cases h10 : j = 10
      · subst h10; rw [pk_us]; rfl
      · rw [pk_un h10, pk_cpy_in (Nat.zero_le _) (by omega)]
        simp only [p_b2]
        rw [if_pos (by omega)]
        congr 1
/-- leading zeros -/
def p_lz (x : Int32) : Nat := if x.toBitVec.toNat = 0 then 32 else 31 - Nat.log2 x.toBitVec.toNat
def p_zr (h : Nat → Int32) : Nat → Nat → Nat
  | 0, i => 32 * i
  | n + 1, i => if h i = 0 then p_zr h n (i + 1) else 32 * i + p_lz (h i)
def p_zeros (h : Nat → Int32) : Nat := p_zr h 8 0
theorem p_zr_skip {h : Nat → Int32} : ∀ (i n k : Nat), (∀ j, j < i → h (k + j) = 0) → p_zr h (i + n) k = p_zr h n (k + i)
  | 0, n, k, _ => by rw [Nat.zero_add, Nat.add_zero]
  | i + 1, n, k, hz => by
    rw [show i + 1 + n = (i + n) + 1 by omega, p_zr, if_pos (by have := hz 0 (by omega); rwa [Nat.add_zero] at this), p_zr_skip i n (k + 1) (fun j hj => by rw [show k + 1 + j = k + (j + 1) by omega]; exact hz (j + 1) (by omega)), show k + 1 + i = k + (i + 1) by omega]
theorem zeros_at {h : Nat → Int32} {i : Nat} (hi : i < 8) (hz : ∀ j, j < i → h j = 0) (hn : ¬ h i = 0) : nI (32 * i + p_lz (h i)) = nI (p_zeros h) := by
  have e := p_zr_skip (h := h) i (8 - i) 0 (fun j hj => by rw [Nat.zero_add]; exact hz j hj)
  rw [show i + (8 - i) = 8 by omega, Nat.zero_add] at e
  rw [p_zeros, e, show 8 - i = (7 - i) + 1 by omega, p_zr, if_neg hn]
theorem zeros_all {h : Nat → Int32} (hz : ∀ j, j < 8 → h j = 0) : nI 256 = nI (p_zeros h) := by
  have e := p_zr_skip (h := h) 8 0 0 (fun j hj => by rw [Nat.zero_add]; exact hz j hj)
  rw [p_zeros, e]; rfl
theorem lz_log {v k : Nat} {q : Nat} (hq : v / 2 ^ k = q) (h1 : 1 ≤ q) (h2 : q < 4) : Nat.log2 v = k + q / 2 := by
  have hv : v ≠ 0 := by intro z; rw [z, Nat.zero_div] at hq; omega
  have hp : 0 < 2 ^ k := Nat.two_pow_pos k
  have lo : 2 ^ k * q ≤ v := by rw [← hq]; exact Nat.mul_div_le v (2 ^ k)
  have up : v < 2 ^ k * (q + 1) := by rw [← hq]; exact Nat.lt_mul_div_succ v hp
  apply (Nat.log2_eq_iff hv).mpr
  rcases (show q = 1 ∨ q = 2 ∨ q = 3 by omega) with rfl | rfl | rfl
  · refine ⟨by simpa using lo, ?_⟩
    rw [show k + 1 / 2 + 1 = k + 1 by omega, Nat.pow_succ]; omega
  · refine ⟨?_, ?_⟩
    · rw [show k + 2 / 2 = k + 1 by omega, Nat.pow_succ]; omega
    · rw [show k + 2 / 2 + 1 = k + 1 + 1 by omega, Nat.pow_succ, Nat.pow_succ]; omega
  · refine ⟨?_, ?_⟩
    · rw [show k + 3 / 2 = k + 1 by omega, Nat.pow_succ]; omega
    · rw [show k + 3 / 2 + 1 = k + 1 + 1 by omega, Nat.pow_succ, Nat.pow_succ]; omega
theorem lz_N {v : Nat} (h0 : 0 < v) (hv : v < 2147483648) : p_lz (nI v) = 31 - Nat.log2 v := by
  simp only [p_lz]
  rw [pk_tn (by omega), if_neg (by omega)]
theorem lz_leaf {v k : Nat} (hv : 0 < v ∧ v < 2147483648) (q : Nat) {n : Nat} (hq : q = v / 2 ^ k ∧ n = 31 - k) (h1 : 1 ≤ q) (h2 : q < 4) : nI (n - q / 2) = nI (p_lz (nI v)) := by
  rw [lz_N hv.1 hv.2, lz_log hq.1.symm h1 h2, hq.2]
  congr 1
  omega
theorem lz_0 {x : Int32} (h : x = 0) : nI 32 = nI (p_lz x) := by subst h; rfl
theorem lz_neg {x : Int32} (h : x.toInt ≤ 0) (h0 : ¬ x = 0) : nI 0 = nI (p_lz x) := by
  have ht : x.toBitVec.toNat ≠ 0 := by
    intro z
    exact h0 (Int32.toBitVec_inj.mp (BitVec.eq_of_toNat_eq (by rw [z]; rfl)))
  have hlt : x.toBitVec.toNat < 2 ^ 32 := x.toBitVec.isLt
  have hge : 2 ^ 31 ≤ x.toBitVec.toNat := by
    have e : x.toInt = x.toBitVec.toInt := rfl
    rw [e, BitVec.toInt_eq_toNat_cond] at h
    split at h <;> omega
  have hl : Nat.log2 x.toBitVec.toNat = 31 := (Nat.log2_eq_iff ht).mpr ⟨hge, hlt⟩
  simp only [p_lz]
  rw [if_neg ht, hl]
theorem cpy_0 {f g : Nat → Int32} {k n j : Nat} (h : j < n) : va_cpy f g k 0 n j = f (k + j) := by
  rw [pk_cpy_in (Nat.zero_le _) (by omega), Nat.sub_zero]
theorem cpy_00 {f g : Nat → Int32} {n j : Nat} (h : j < n) : va_cpy f g 0 0 n j = f j := by rw [cpy_0 h, Nat.zero_add]
