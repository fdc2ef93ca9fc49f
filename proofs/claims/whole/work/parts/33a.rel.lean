/-! Class and reference, held against each other: pure. -/
def p_E (gc gw : Nat → Int32) (n k z : Nat) : Nat → Int32 := upd (p_ent gc gw n k) 24 (nI (16 * z + k))
def rep (fb gf : Nat → Int32) : Prop := ∀ b, b < 1024 → ((fb (b / 32) &&& p_msk b) = 0 ↔ gf b = 0)
def Rel (fb fc fd fr fp : Nat → Int32) (n k z t : Nat) (kn : Int32) (pl lf pn : Nat) (gc gd gw gf gp : Nat → Int32) : Prop :=
  (n ≤ 60 ∧ k ≤ 8 ∧ z ≤ 20 ∧ t ≤ 100000 ∧ pl ≤ 60 ∧ lf ≤ 6 ∧ pn ≤ 1560) ∧ (∀ j, j < 2040 → fc j = gc j) ∧ (∀ j, j < 8 → fd j = gd j) ∧ (∀ j, j < 8 → fr (16 + j) = if j < k then gw j else nI 0) ∧ rep fb gf ∧ (∀ j, j < pn → fp j = gp j) ∧
  (kn = (-1) ∨ ∃ v : Nat, v < 100000 ∧ kn = nI v ∧ (∀ j, j < 26 → fr j = upd (p_E gc gw n k z) 25 (nI v) j) ∧ ∀ j, j < 8 → fr (26 + j) = p_hash (upd (p_E gc gw n k z) 25 (nI v)) 0 j)
theorem m1_int : ((-1 : Int32)).toInt = -1 := by decide
/-- bits -/
theorem msk_32 : ∀ d, d < 32 → ∀ c, c < 32 → (((nI 1 <<< (nI d &&& 31)) &&& (nI 1 <<< (nI c &&& 31)) = 0) ↔ d ≠ c) := by decide +kernel
theorem msk_mod {b : Nat} (hb : b < 1024) : p_msk b = nI 1 <<< (nI (b % 32) &&& 31) := by
  rw [p_msk, pk_andN (by omega) (m := nI 31) 5 (by decide)]
theorem msk_all {b c : Nat} (hb : b < 1024) (hc : c < 1024) : (p_msk b &&& p_msk c = 0) ↔ b % 32 ≠ c % 32 := by
  rw [msk_mod hb, msk_mod hc]
  exact msk_32 _ (Nat.mod_lt _ (by decide)) _ (Nat.mod_lt _ (by decide))
theorem or_and0 (x y m : Int32) : ((x ||| y) &&& m = 0) ↔ (x &&& m = 0 ∧ y &&& m = 0) := by
  have e : (x ||| y) &&& m = (x &&& m) ||| (y &&& m) := by
    apply Int32.toBitVec_inj.mp
    simp only [Int32.toBitVec_and, Int32.toBitVec_or]
    exact BitVec.and_or_distrib_right
  rw [e]
  constructor
  · intro h
    have hb : ∀ i : Nat, ((x &&& m).toBitVec.getLsbD i || (y &&& m).toBitVec.getLsbD i) = false := by
      intro i
      have := congrArg (fun z : Int32 => z.toBitVec.getLsbD i) h
      simp only [Int32.toBitVec_or, BitVec.getLsbD_or] at this
      rw [this]
      simp
    refine ⟨Int32.toBitVec_inj.mp (BitVec.eq_of_getLsbD_eq (fun i _ => ?_)), Int32.toBitVec_inj.mp (BitVec.eq_of_getLsbD_eq (fun i _ => ?_))⟩
    · have := hb i
      rw [Bool.or_eq_false_iff] at this
      rw [this.1]; simp
    · have := hb i
      rw [Bool.or_eq_false_iff] at this
      rw [this.2]; simp
  · intro h
    rw [h.1, h.2]; decide
theorem rep_set {fb gf : Nat → Int32} (h : rep fb gf) {b : Nat} (hb : b < 1024) : rep (p_set fb b) (upd gf b (nI 1)) := by
  intro c hc
  have hm := msk_all hb hc
  by_cases q : c = b
  · subst q
    rw [pk_us, p_set, pk_us, or_and0]
    constructor
    · intro z; exact absurd (hm.mp z.2) (by omega)
    · intro z; exact absurd z (by decide)
  · rw [pk_un q]
    by_cases w : c / 32 = b / 32
    · rw [p_set, w, pk_us, or_and0, ← w, h c hc]
      constructor
      · intro z; exact z.1
      · intro z; exact ⟨z, hm.mpr (by omega)⟩
    · rw [p_set, pk_un w]; exact h c hc
theorem rep_inc {fb gf : Nat → Int32} (h : rep fb gf) (w : Int32) : ∀ i, rep (p_incN fb w i) (p_m4 gf w i)
  | 0 => h
  | i + 1 => by
    rw [p_incN, p_m4]
    exact rep_set (rep_inc h w i) (p_bit_lt _ _)
theorem rep_add {fb gf fc gc : Nat → Int32} (h : rep fb gf) {d y : Nat} : ∀ i, (∀ j, j < i → fc (d + j) = gc (34 * y + (16 + j))) → rep (p_addN fb fc d i) (p_m8 gf gc y i)
  | 0, _ => h
  | i + 1, e => by
    rw [p_addN, p_m8, e i (by omega)]
    exact rep_inc (rep_add h i (fun j hj => e j (by omega))) _ 4
theorem rep_rem {fb gf fc gc : Nat → Int32} (e : ∀ j, j < 2040 → fc j = gc j) : ∀ y, y ≤ 60 → rep (p_remN fb fc y) (p_mrm gf gc y)
  | 0, _ => by
    intro b hb
    rw [p_remN, p_mrm]
    simp only [p_fill]
    rw [if_pos (by omega), if_pos (by omega)]
    have z : nI 0 &&& p_msk b = 0 := by
      apply Int32.toBitVec_inj.mp
      simp [nI]
    exact ⟨fun _ => rfl, fun _ => z⟩
  | y + 1, hy => by
    rw [p_remN, p_mrm]
    exact rep_add (rep_rem e y (by omega)) 8 (fun j hj => by rw [show y * 34 + 16 + j = 34 * y + (16 + j) by omega]; exact e _ (by omega))
theorem may_eq {fb gf : Nat → Int32} (h : rep fb gf) (x : Int32) : allN (p_has fb x) 4 = allN (p_mh gf x) 4 := by
  refine allN_congr (fun i _ => ?_)
  have := h (p_bit x (nI i)) (p_bit_lt _ _)
  simp only [p_has, p_mh]
  by_cases q : gf (p_bit x (nI i)) = 0
  · rw [decide_eq_true q, decide_eq_true (this.mpr q)]
  · rw [decide_eq_false q, decide_eq_false (fun z => q (this.mp z))]
theorem hw_eq {fc gc : Nat → Int32} (e : ∀ j, j < 2040 → fc j = gc j) {y : Nat} (hy : y < 60) (x : Int32) : p_hw fc x y = p_hw gc x y := by
  simp only [p_hw, anyN]
  congr 1
  exact allN_congr (fun i hi => by rw [e _ (by omega)])
