def p_m2 (f g : Nat → Int32) (i : Nat) : Nat → Int32 := fun j => if j < i then (if j < 10 then f (16 + j) else nI 0) else g j
theorem m2_0 (f g : Nat → Int32) : p_m2 f g 0 = g := by funext j; simp only [p_m2]; rw [if_neg (by omega)]
theorem m2_a {f g : Nat → Int32} {i : Nat} (h : i < 10) : upd (p_m2 f g i) i (f (16 + i)) = p_m2 f g (i + 1) := by
  funext j
  by_cases q : j = i
  · subst q; rw [pk_us]; simp only [p_m2]; rw [if_pos (by omega), if_pos h]
  · rw [pk_un q]; simp only [p_m2]
    by_cases z : j < i
    · rw [if_pos z, if_pos (show j < i + 1 by omega)]
    · rw [if_neg z, if_neg (show ¬ j < i + 1 by omega)]
theorem m2_b {f g : Nat → Int32} {i : Nat} (h : 10 ≤ i) : upd (p_m2 f g i) i (nI 0) = p_m2 f g (i + 1) := by
  funext j
  by_cases q : j = i
  · subst q; rw [pk_us]; simp only [p_m2]; rw [if_pos (by omega), if_neg (by omega)]
  · rw [pk_un q]; simp only [p_m2]
    by_cases z : j < i
    · rw [if_pos z, if_pos (show j < i + 1 by omega)]
    · rw [if_neg z, if_neg (show ¬ j < i + 1 by omega)]
theorem m2_ok (f g : Nat → Int32) : ∀ j, j < 16 → upd (upd (p_m2 f g 16) 10 (-2147483648)) 15 (nI 832) j = p_b2 f 0 j := by
  intro j hj
  simp only [p_b2]
  by_cases h15 : j = 15
  · subst h15; rw [pk_us, if_neg (by omega), if_neg (by omega), if_pos rfl]
  · rw [pk_un h15]
    by_cases h10 : j = 10
    · subst h10; rw [pk_us, if_neg (by omega), if_pos rfl]
    · rw [pk_un h10]
      simp only [p_m2]
      rw [if_pos hj]
      by_cases q : j < 10
      · rw [if_pos q, if_pos q, Nat.zero_add]
      · rw [if_neg q, if_neg q, if_neg h10, if_neg h15]
/-- leading zeros, one by one -/
theorem sl_ok : ∀ j, j < 32 → ((nI j &&& 31).toBitVec.smod 32).toNat = j := by decide +kernel
theorem neg_iff (y : Int32) : y.toInt < 0 ↔ 2147483648 ≤ y.toBitVec.toNat := by
  have e : y.toInt = y.toBitVec.toInt := rfl
  have hl := y.toBitVec.isLt
  rw [e, BitVec.toInt_eq_toNat_cond]
  split <;> omega
theorem lzm_lt {x : Int32} : ∀ i, i ≤ 32 → (∀ j, j < i → 0 ≤ (x <<< (nI j &&& 31)).toInt) → x.toBitVec.toNat < 2 ^ (32 - i)
  | 0, _, _ => x.toBitVec.isLt
  | i + 1, hi, h => by
    have ih := lzm_lt i (by omega) (fun j hj => h j (by omega))
    have q := h i (by omega)
    have e := pk_shl x (nI i &&& 31) i (sl_ok i (by omega))
    have q2 : ¬ 2147483648 ≤ (x <<< (nI i &&& 31)).toBitVec.toNat := fun z => by have := (neg_iff _).mpr z; omega
    rw [e] at q2
    have e2 : 2 ^ (32 - i) * 2 ^ i = 2 ^ 32 := by rw [← Nat.pow_add]; congr 1; omega
    have e3 : 2 ^ (32 - (i + 1)) * 2 ^ i = 2 ^ 31 := by rw [← Nat.pow_add]; congr 1; omega
    have hp : 0 < 2 ^ i := Nat.two_pow_pos i
    have hlt : x.toBitVec.toNat * 2 ^ i < 2 ^ 32 := by rw [← e2]; exact Nat.mul_lt_mul_of_pos_right ih hp
    rw [Nat.mod_eq_of_lt hlt] at q2
    apply Nat.lt_of_mul_lt_mul_right (a := 2 ^ i)
    rw [e3]
    omega
theorem lzm_all {x : Int32} (h : ∀ j, j < 32 → 0 ≤ (x <<< (nI j &&& 31)).toInt) : nI 32 = nI (p_lz x) := by
  have := lzm_lt 32 (Nat.le_refl _) h
  have e : x.toBitVec.toNat = 0 := by
    rw [show (2 : Nat) ^ (32 - 32) = 1 by decide] at this
    omega
  simp only [p_lz]
  rw [if_pos e]
theorem lzm_at {x : Int32} {i : Nat} (hi : i < 32) (h : ∀ j, j < i → 0 ≤ (x <<< (nI j &&& 31)).toInt) (hn : (x <<< (nI i &&& 31)).toInt < 0) : nI i = nI (p_lz x) := by
  have up := lzm_lt i (by omega) h
  have q := (neg_iff _).mp hn
  have e := pk_shl x (nI i &&& 31) i (sl_ok i hi)
  rw [e] at q
  have e2 : 2 ^ (32 - i) * 2 ^ i = 2 ^ 32 := by rw [← Nat.pow_add]; congr 1; omega
  have e3 : 2 ^ (31 - i) * 2 ^ i = 2 ^ 31 := by rw [← Nat.pow_add]; congr 1; omega
  have hp : 0 < 2 ^ i := Nat.two_pow_pos i
  have hlt : x.toBitVec.toNat * 2 ^ i < 2 ^ 32 := by rw [← e2]; exact Nat.mul_lt_mul_of_pos_right up hp
  rw [Nat.mod_eq_of_lt hlt] at q
  have lo : 2 ^ (31 - i) ≤ x.toBitVec.toNat := by
    refine Nat.le_of_mul_le_mul_right (c := 2 ^ i) ?_ hp
    rw [e3]
    omega
  have hne : x.toBitVec.toNat ≠ 0 := by
    have := Nat.two_pow_pos (31 - i)
    omega
  have hl : Nat.log2 x.toBitVec.toNat = 31 - i := (Nat.log2_eq_iff hne).mpr ⟨lo, by rw [show 31 - i + 1 = 32 - i by omega]; exact up⟩
  simp only [p_lz]
  rw [if_neg hne, hl]
  congr 1
  omega
def p_ent (gc gw : Nat → Int32) (n k : Nat) : Nat → Int32 := fun j => if j < 8 then (if n = 0 then nI 0 else gc (34 * (n - 1) + 26 + j)) else if j < 16 then (if n = 0 then nI 0 else gc (34 * p_sk n + 26 + (j - 8))) else (if j - 16 < k then gw (j - 16) else nI 0)
def p_eN (f g : Nat → Int32) (i : Nat) : Nat → Int32 := fun j => if j < 24 ∧ j % 8 < i then f j else g j
theorem eN_0 (f g : Nat → Int32) : p_eN f g 0 = g := by funext j; simp only [p_eN]; rw [if_neg (by omega)]
theorem eN_s {f g : Nat → Int32} {i : Nat} (hi : i < 8) {x y w : Int32} (h1 : x = f i) (h2 : y = f (8 + i)) (h3 : w = f (16 + i)) : upd (upd (upd (p_eN f g i) i x) (8 + i) y) (16 + i) w = p_eN f g (i + 1) := by
  subst h1; subst h2; subst h3
  funext j
  by_cases q3 : j = 16 + i
  · subst q3; rw [pk_us]; simp only [p_eN]; rw [if_pos (by omega)]
  · rw [pk_un q3]
    by_cases q2 : j = 8 + i
    · subst q2; rw [pk_us]; simp only [p_eN]; rw [if_pos (by omega)]
    · rw [pk_un q2]
      by_cases q1 : j = i
      · subst q1; rw [pk_us]; simp only [p_eN]; rw [if_pos (by omega)]
      · rw [pk_un q1]
        simp only [p_eN]
        by_cases z : j < 24 ∧ j % 8 < i
        · rw [if_pos z, if_pos (by omega)]
        · rw [if_neg z, if_neg (by omega)]
def p_F (gc gw ge : Nat → Int32) (n k z : Nat) : Nat → Int32 := upd (p_eN (p_ent gc gw n k) ge 8) 24 (nI (16 * z + k))
def r_try (f : Nat → Int32) (z t q : Nat) (t' : Nat) (kn' : Int32) : Prop :=
  (kn' = (-1) ∧ t' = t + q ∧ ∀ j, t ≤ j → j < t + q → p_nz f j < z) ∨ (∃ v : Nat, t ≤ v ∧ v < t + q ∧ (∀ j, t ≤ j → j < v → p_nz f j < z) ∧ z ≤ p_nz f v ∧ kn' = nI v ∧ t' = v + 1)
def r_mine (f : Nat → Int32) (z t : Nat) (kn x r : Int32) (t' : Nat) (kn' : Int32) : Prop :=
  ((x.toInt < 1 ∨ 3000 < x.toInt) ∧ r = (-2) ∧ t' = t ∧ kn' = kn) ∨
  ((1 ≤ x.toInt ∧ x.toInt ≤ 3000) ∧ ((0 ≤ kn.toInt ∧ r = kn ∧ t' = t ∧ kn' = kn) ∨ (kn.toInt < 0 ∧ ((t = 100000 ∧ r = (-3) ∧ t' = t ∧ kn' = kn) ∨ (t ≠ 100000 ∧ ∃ q : Nat, x = nI q ∧ r_try f z t (min q (100000 - t)) t' kn' ∧ r = kn')))))
def p_m4 (g : Nat → Int32) (w : Int32) : Nat → Nat → Int32
  | 0 => g
  | i + 1 => upd (p_m4 g w i) (p_bit w (nI i)) (nI 1)
def p_m8 (g gc : Nat → Int32) (y : Nat) : Nat → Nat → Int32
  | 0 => g
  | k + 1 => p_m4 (p_m8 g gc y k) (gc (34 * y + (16 + k))) 4
def p_mrm (g gc : Nat → Int32) : Nat → Nat → Int32
  | 0 => p_fill g 0 1024 (nI 0)
  | y + 1 => p_m8 (p_mrm g gc y) gc y 8
def r_commit (gc gd gw gf ge : Nat → Int32) (n k z t : Nat) (kn r : Int32) (gc' gd' gf' : Nat → Int32) (n' k' t' : Nat) (kn' : Int32) : Prop :=
  (n = 60 ∧ r = (-4) ∧ gc' = gc ∧ gd' = gd ∧ gf' = gf ∧ n' = n ∧ k' = k ∧ t' = t ∧ kn' = kn) ∨
  (n ≠ 60 ∧ ((kn.toInt < 0 ∧ r = (-3) ∧ gc' = gc ∧ gd' = gd ∧ gf' = gf ∧ n' = n ∧ k' = k ∧ t' = t ∧ kn' = kn) ∨
    (0 ≤ kn.toInt ∧ ∃ h : Nat → Int32, (∀ j, j < 8 → h j = p_hash (upd (p_F gc gw ge n k z) 25 kn) 0 j) ∧ r = nI n ∧ gc' = va_cpy h (va_cpy (upd (p_F gc gw ge n k z) 25 kn) gc 0 (34 * n) 26) 0 (34 * n + 26) 8 ∧ gd' = va_cpy h gd 0 0 8 ∧ gf' = p_m8 gf gc' n 8 ∧ n' = n + 1 ∧ k' = 0 ∧ t' = 0 ∧ kn' = (-1))))
def r_drop (gc gd gf : Nat → Int32) (n t : Nat) (kn : Int32) (pl : Nat) (r : Int32) (gd' gf' : Nat → Int32) (n' t' : Nat) (kn' : Int32) (pl' : Nat) : Prop :=
  (n = 0 ∧ r = (-1) ∧ gd' = gd ∧ gf' = gf ∧ n' = n ∧ t' = t ∧ kn' = kn ∧ pl' = pl) ∨
  (0 < n ∧ r = nI (n - 1) ∧ gd' = va_cpy gc gd (34 * (n - 1)) 0 8 ∧ gf' = p_mrm gf gc (n - 1) ∧ n' = n - 1 ∧ t' = 0 ∧ kn' = (-1) ∧ pl' = min pl (n - 1))
def p_mh (gf : Nat → Int32) (x : Int32) (i : Nat) : Bool := !decide (gf (p_bit x (nI i)) = 0)
def r_find (gf gc : Nat → Int32) (n : Nat) (x r : Int32) : Prop :=
  (allN (p_mh gf x) 4 = false ∧ r = (-1)) ∨ (allN (p_mh gf x) 4 = true ∧ ((∃ y : Nat, y < n ∧ r = nI y ∧ p_hw gc x y = true ∧ ∀ i, i < y → p_hw gc x i = false) ∨ (r = (-1) ∧ ∀ i, i < n → p_hw gc x i = false)))
set_option maxHeartbeats 4000000 in
set_option maxRecDepth 100000 in
theorem m_mix (l : Launch) (G : gG) (sz : Nat) (b : Nat → Nat) (gc gd gw gf gp ga gb gh gg gx ge : Nat → Int32) (n k z t : Nat) (kn : Int32) (pl lf pn : Nat)  (hn : n ≤ 60) (hk : k ≤ 8) (hz : z ≤ 20) (ht : t ≤ 100000) (hpl : pl ≤ 60) (hlf : lf ≤ 6) (hpn : pn ≤ 1560) (hga : ∀ j, j < 64 → ga j = st_K j) (hgb : ∀ j, j < 8 → gb j = st_S j)  : MetV l yX3_mix wsX3_mix ({ frames := 1, cells := 0, slots := 0, locals := 21 } : Room) [.ref (b 0)] G (wMd G b gc gd gw gf gp ga gb gh gg gx ge n k z t kn pl lf pn) sz (fun _ : Unit => wMd G b gc gd gw gf gp ga gb (p_mix gh gx) gg (p_w gx) ge n k z t kn pl lf pn) (fun _ => True) := by
  refine ent_v _ cX3_mix 12 RX3 (by decide) rfl rfl (Nat.le_of_ble_eq_true rfl) ?_
  intro p e s m args below meth c A Q ls hx hb hml hts hown hA hK hX ret hl hP hD hS
  have hl : lv_has ls 12 [(0, .ref (b 0))] := hl
  have lk30 := hts (.fieldLink RX3 30 "MinedLedgerModel" "add" "[I") (by decide +kernel)
  have lk36 := hts (.fieldLink RX3 36 "MinedLedgerModel" "h" "[I") (by decide +kernel)
  have lk42 := hts (.fieldLink RX3 42 "MinedLedgerModel" "w" "[I") (by decide +kernel)
  have hiX3 : ∀ w ∈ wsX30, w ∈ wsX3_mix := by decide +kernel
  refine lv_bipush (v := nI 16) hx hb dX3_mix_0 (by decide) ?_
  refine lv_istore_n (lv' := [(1, .int (nI 16)), (0, .ref (b 0))]) hx hb dX3_mix_2 rfl hl (by decide) rfl (fun ls hl => ?_)
  suffices hloop1 : ∀ (fu1 : Nat) (s1 : Nat), (s1 ≤ 48) → 48 - s1 < fu1 → ∀ (H : Heap) (locs : List Loc) (ls : Array Slot), va_P G.1 vwCl (wMd G b gc gd gw gf gp ga gb gh gg (p_sprN gx s1) ge n k z t kn pl lf pn) H → va_D A (wMd G b gc gd gw gf gp ga gb gh gg (p_sprN gx s1) ge n k z t kn pl lf pn) → va_S A s.heap H locs → lv_has ls 12 [(0, .ref (b 0)), (1, .int (nI (16 + s1)))] → W p l e ({ frames := 1, cells := 0, slots := 0, locals := 21 } : Room) s m args below meth c H locs 0 0 Q (F0 m 3 ls []) from hloop1 _ 0 (Nat.zero_le _) (Nat.lt_succ_self _) _ _ _ hP hD hS (lv_sub hl [1, 0] rfl)
  clear hP hD hS hl
  intro fu1
  induction fu1 with
  | zero => intro s1 hs1 hfu; exact absurd hfu (Nat.not_lt_zero _)
  | succ fu1 ih1 =>
    intro s1 hs1 hfu1 H locs ls hP hD hS hl
    refine lv_iload_n hx hb dX3_mix_3 rfl (lv_at hl 1 rfl) ?_
    refine lv_bipush (v := nI 64) hx hb dX3_mix_4 (by decide) ?_
    refine cmp_ge hx hb (16 + s1) 64 96 (by omega) (by omega) dX3_mix_6 (by decide) (fun c6 => ?_) (fun c6 => ?_)
    · have e96 : s1 = 48 := by omega
      subst e96
      refine lv_aload_n hx hb dX3_mix_96 rfl (lv_at hl 0 rfl) ?_
      refine va_get (D := G.1) (ci := 3) (v := .ref (b 8)) (C := RX3) (T := TX3) (N := 19) hx hb hts hiX3 hown hK hP 0 rfl rfl 15 (by decide) lk36 (fun _ h9 => h9) rfl dX3_mix_97 ?_
      refine lv_iconst (v := nI 0) hx hb dX3_mix_100 (by decide) ?_
      refine rd_i hx hb hK hP 8 rfl 0 (by omega) (by omega) dX3_mix_101 ?_
      refine lv_istore_n (lv' := [(1, .int (gh 0)), (0, .ref (b 0))]) hx hb dX3_mix_102 rfl hl (by decide) rfl (fun ls hl => ?_)
      refine lv_aload_n hx hb dX3_mix_103 rfl (lv_at hl 1 rfl) ?_
      refine va_get (D := G.1) (ci := 3) (v := .ref (b 8)) (C := RX3) (T := TX3) (N := 19) hx hb hts hiX3 hown hK hP 0 rfl rfl 15 (by decide) lk36 (fun _ h9 => h9) rfl dX3_mix_104 ?_
      refine lv_iconst (v := nI 1) hx hb dX3_mix_107 (by decide) ?_
      refine rd_i hx hb hK hP 8 rfl 1 (by omega) (by omega) dX3_mix_108 ?_
      refine lv_istore_n (lv' := [(2, .int (gh 1)), (1, .int (gh 0)), (0, .ref (b 0))]) hx hb dX3_mix_109 rfl hl (by decide) rfl (fun ls hl => ?_)
      refine lv_aload_n hx hb dX3_mix_110 rfl (lv_at hl 2 rfl) ?_
      refine va_get (D := G.1) (ci := 3) (v := .ref (b 8)) (C := RX3) (T := TX3) (N := 19) hx hb hts hiX3 hown hK hP 0 rfl rfl 15 (by decide) lk36 (fun _ h9 => h9) rfl dX3_mix_111 ?_
      refine lv_iconst (v := nI 2) hx hb dX3_mix_114 (by decide) ?_
      refine rd_i hx hb hK hP 8 rfl 2 (by omega) (by omega) dX3_mix_115 ?_
      refine lv_istore_n (lv' := [(3, .int (gh 2)), (2, .int (gh 1)), (1, .int (gh 0)), (0, .ref (b 0))]) hx hb dX3_mix_116 rfl hl (by decide) rfl (fun ls hl => ?_)
      refine lv_aload_n hx hb dX3_mix_117 rfl (lv_at hl 3 rfl) ?_
      refine va_get (D := G.1) (ci := 3) (v := .ref (b 8)) (C := RX3) (T := TX3) (N := 19) hx hb hts hiX3 hown hK hP 0 rfl rfl 15 (by decide) lk36 (fun _ h9 => h9) rfl dX3_mix_118 ?_
      refine lv_iconst (v := nI 3) hx hb dX3_mix_121 (by decide) ?_
      refine rd_i hx hb hK hP 8 rfl 3 (by omega) (by omega) dX3_mix_122 ?_
      refine lv_istore (lv' := [(4, .int (gh 3)), (3, .int (gh 2)), (2, .int (gh 1)), (1, .int (gh 0)), (0, .ref (b 0))]) hx hb dX3_mix_123 hl (by decide) rfl (fun ls hl => ?_)
      refine lv_aload_n hx hb dX3_mix_125 rfl (lv_at hl 4 rfl) ?_
      refine va_get (D := G.1) (ci := 3) (v := .ref (b 8)) (C := RX3) (T := TX3) (N := 19) hx hb hts hiX3 hown hK hP 0 rfl rfl 15 (by decide) lk36 (fun _ h9 => h9) rfl dX3_mix_126 ?_
      refine lv_iconst (v := nI 4) hx hb dX3_mix_129 (by decide) ?_
      refine rd_i hx hb hK hP 8 rfl 4 (by omega) (by omega) dX3_mix_130 ?_
      refine lv_istore (lv' := [(5, .int (gh 4)), (4, .int (gh 3)), (3, .int (gh 2)), (2, .int (gh 1)), (1, .int (gh 0)), (0, .ref (b 0))]) hx hb dX3_mix_131 hl (by decide) rfl (fun ls hl => ?_)
      refine lv_aload_n hx hb dX3_mix_133 rfl (lv_at hl 5 rfl) ?_
      refine va_get (D := G.1) (ci := 3) (v := .ref (b 8)) (C := RX3) (T := TX3) (N := 19) hx hb hts hiX3 hown hK hP 0 rfl rfl 15 (by decide) lk36 (fun _ h9 => h9) rfl dX3_mix_134 ?_
      refine lv_iconst (v := nI 5) hx hb dX3_mix_137 (by decide) ?_
      refine rd_i hx hb hK hP 8 rfl 5 (by omega) (by omega) dX3_mix_138 ?_
      refine lv_istore (lv' := [(6, .int (gh 5)), (5, .int (gh 4)), (4, .int (gh 3)), (3, .int (gh 2)), (2, .int (gh 1)), (1, .int (gh 0)), (0, .ref (b 0))]) hx hb dX3_mix_139 hl (by decide) rfl (fun ls hl => ?_)
      refine lv_aload_n hx hb dX3_mix_141 rfl (lv_at hl 6 rfl) ?_
      refine va_get (D := G.1) (ci := 3) (v := .ref (b 8)) (C := RX3) (T := TX3) (N := 19) hx hb hts hiX3 hown hK hP 0 rfl rfl 15 (by decide) lk36 (fun _ h9 => h9) rfl dX3_mix_142 ?_
      refine lv_bipush (v := nI 6) hx hb dX3_mix_145 (by decide) ?_
      refine rd_i hx hb hK hP 8 rfl 6 (by omega) (by omega) dX3_mix_147 ?_
      refine lv_istore (lv' := [(7, .int (gh 6)), (6, .int (gh 5)), (5, .int (gh 4)), (4, .int (gh 3)), (3, .int (gh 2)), (2, .int (gh 1)), (1, .int (gh 0)), (0, .ref (b 0))]) hx hb dX3_mix_148 hl (by decide) rfl (fun ls hl => ?_)
      refine lv_aload_n hx hb dX3_mix_150 rfl (lv_at hl 7 rfl) ?_
      refine va_get (D := G.1) (ci := 3) (v := .ref (b 8)) (C := RX3) (T := TX3) (N := 19) hx hb hts hiX3 hown hK hP 0 rfl rfl 15 (by decide) lk36 (fun _ h9 => h9) rfl dX3_mix_151 ?_
      refine lv_bipush (v := nI 7) hx hb dX3_mix_154 (by decide) ?_
      refine rd_i hx hb hK hP 8 rfl 7 (by omega) (by omega) dX3_mix_156 ?_
      refine lv_istore (lv' := [(8, .int (gh 7)), (7, .int (gh 6)), (6, .int (gh 5)), (5, .int (gh 4)), (4, .int (gh 3)), (3, .int (gh 2)), (2, .int (gh 1)), (1, .int (gh 0)), (0, .ref (b 0))]) hx hb dX3_mix_157 hl (by decide) rfl (fun ls hl => ?_)
      refine lv_iconst (v := nI 0) hx hb dX3_mix_159 (by decide) ?_
      refine lv_istore (lv' := [(9, .int (nI 0)), (8, .int (gh 7)), (7, .int (gh 6)), (6, .int (gh 5)), (5, .int (gh 4)), (4, .int (gh 3)), (3, .int (gh 2)), (2, .int (gh 1)), (1, .int (gh 0)), (0, .ref (b 0))]) hx hb dX3_mix_160 hl (by decide) rfl (fun ls hl => ?_)
      suffices hloop2 : ∀ (fu2 : Nat) (w1 : Nat) (v1 : Int32) (v2 : Int32) (v3 : Int32) (v4 : Int32) (v5 : Int32) (v6 : Int32) (v7 : Int32) (v8 : Int32), (w1 ≤ 64) → ((v1, v2, v3, v4, v5, v6, v7, v8) = p_rs (p_w gx) (p_tup gh) w1) → 64 - w1 < fu2 → ∀ (H : Heap) (locs : List Loc) (ls : Array Slot), va_P G.1 vwCl (wMd G b gc gd gw gf gp ga gb gh gg (p_sprN gx 48) ge n k z t kn pl lf pn) H → va_D A (wMd G b gc gd gw gf gp ga gb gh gg (p_sprN gx 48) ge n k z t kn pl lf pn) → va_S A s.heap H locs → lv_has ls 12 [(0, .ref (b 0)), (1, .int v1), (2, .int v2), (3, .int v3), (4, .int v4), (5, .int v5), (6, .int v6), (7, .int v7), (8, .int v8), (9, .int (nI w1))] → W p l e ({ frames := 1, cells := 0, slots := 0, locals := 21 } : Room) s m args below meth c H locs 0 0 Q (F0 m 162 ls []) from hloop2 _ 0 (gh 0) (gh 1) (gh 2) (gh 3) (gh 4) (gh 5) (gh 6) (gh 7) (Nat.zero_le _) rfl (Nat.lt_succ_self _) _ _ _ hP hD hS (lv_sub hl [9, 8, 7, 6, 5, 4, 3, 2, 1, 0] rfl)
      clear hP hD hS hl
      intro fu2
      induction fu2 with
      | zero => intro w1 v1 v2 v3 v4 v5 v6 v7 v8 hw1 hst hfu; exact absurd hfu (Nat.not_lt_zero _)
      | succ fu2 ih2 =>
        intro w1 v1 v2 v3 v4 v5 v6 v7 v8 hw1 hst hfu2 H locs ls hP hD hS hl
        refine lv_iload hx hb dX3_mix_162 (lv_at hl 9 rfl) ?_
        refine lv_bipush (v := nI 64) hx hb dX3_mix_164 (by decide) ?_
        refine cmp_ge hx hb w1 64 298 (by omega) (by omega) dX3_mix_166 (by decide) (fun c166 => ?_) (fun c166 => ?_)
        · have e298 : w1 = 64 := by omega
          subst e298
          refine lv_aload_n hx hb dX3_mix_298 rfl (lv_at hl 0 rfl) ?_
          refine va_get (D := G.1) (ci := 3) (v := .ref (b 8)) (C := RX3) (T := TX3) (N := 19) hx hb hts hiX3 hown hK hP 0 rfl rfl 15 (by decide) lk36 (fun _ h9 => h9) rfl dX3_mix_299 ?_
          refine lv_iconst (v := nI 0) hx hb dX3_mix_302 (by decide) ?_
          refine lv_dup2_11 hx hb dX3_mix_303 rfl rfl ?_
          refine rd_i hx hb hK hP 8 rfl 0 (by omega) (by omega) dX3_mix_304 ?_
          refine top_i (gh 0) rfl ?_
          refine lv_iload_n hx hb dX3_mix_305 rfl (lv_at hl 1 rfl) ?_
          refine lv_iadd hx hb dX3_mix_306 ?_
          refine wr_i hx hb hK hP hD hS 8 rfl 0 (by omega) (by omega) dX3_mix_307 (fun H locs hP hD hS => ?_)
          have hP : va_P G.1 vwCl (wMd G b gc gd gw gf gp ga gb (upd gh 0 ((gh 0) + v1)) gg (p_sprN gx 48) ge n k z t kn pl lf pn) H := hP
          have hD : va_D A (wMd G b gc gd gw gf gp ga gb (upd gh 0 ((gh 0) + v1)) gg (p_sprN gx 48) ge n k z t kn pl lf pn) := hD
          refine lv_aload_n hx hb dX3_mix_308 rfl (lv_at hl 0 rfl) ?_
          refine va_get (D := G.1) (ci := 3) (v := .ref (b 8)) (C := RX3) (T := TX3) (N := 19) hx hb hts hiX3 hown hK hP 0 rfl rfl 15 (by decide) lk36 (fun _ h9 => h9) rfl dX3_mix_309 ?_
          refine lv_iconst (v := nI 1) hx hb dX3_mix_312 (by decide) ?_
          refine lv_dup2_11 hx hb dX3_mix_313 rfl rfl ?_
          refine rd_i hx hb hK hP 8 rfl 1 (by omega) (by omega) dX3_mix_314 ?_
          refine top_i (gh 1) rfl ?_
          refine lv_iload_n hx hb dX3_mix_315 rfl (lv_at hl 2 rfl) ?_
          refine lv_iadd hx hb dX3_mix_316 ?_
          refine wr_i hx hb hK hP hD hS 8 rfl 1 (by omega) (by omega) dX3_mix_317 (fun H locs hP hD hS => ?_)
          have hP : va_P G.1 vwCl (wMd G b gc gd gw gf gp ga gb (upd (upd gh 0 ((gh 0) + v1)) 1 ((gh 1) + v2)) gg (p_sprN gx 48) ge n k z t kn pl lf pn) H := hP
          have hD : va_D A (wMd G b gc gd gw gf gp ga gb (upd (upd gh 0 ((gh 0) + v1)) 1 ((gh 1) + v2)) gg (p_sprN gx 48) ge n k z t kn pl lf pn) := hD
          refine lv_aload_n hx hb dX3_mix_318 rfl (lv_at hl 0 rfl) ?_
          refine va_get (D := G.1) (ci := 3) (v := .ref (b 8)) (C := RX3) (T := TX3) (N := 19) hx hb hts hiX3 hown hK hP 0 rfl rfl 15 (by decide) lk36 (fun _ h9 => h9) rfl dX3_mix_319 ?_
          refine lv_iconst (v := nI 2) hx hb dX3_mix_322 (by decide) ?_
          refine lv_dup2_11 hx hb dX3_mix_323 rfl rfl ?_
          refine rd_i hx hb hK hP 8 rfl 2 (by omega) (by omega) dX3_mix_324 ?_
          refine top_i (gh 2) rfl ?_
          refine lv_iload_n hx hb dX3_mix_325 rfl (lv_at hl 3 rfl) ?_
          refine lv_iadd hx hb dX3_mix_326 ?_
          refine wr_i hx hb hK hP hD hS 8 rfl 2 (by omega) (by omega) dX3_mix_327 (fun H locs hP hD hS => ?_)
          have hP : va_P G.1 vwCl (wMd G b gc gd gw gf gp ga gb (upd (upd (upd gh 0 ((gh 0) + v1)) 1 ((gh 1) + v2)) 2 ((gh 2) + v3)) gg (p_sprN gx 48) ge n k z t kn pl lf pn) H := hP
          have hD : va_D A (wMd G b gc gd gw gf gp ga gb (upd (upd (upd gh 0 ((gh 0) + v1)) 1 ((gh 1) + v2)) 2 ((gh 2) + v3)) gg (p_sprN gx 48) ge n k z t kn pl lf pn) := hD
          refine lv_aload_n hx hb dX3_mix_328 rfl (lv_at hl 0 rfl) ?_
          refine va_get (D := G.1) (ci := 3) (v := .ref (b 8)) (C := RX3) (T := TX3) (N := 19) hx hb hts hiX3 hown hK hP 0 rfl rfl 15 (by decide) lk36 (fun _ h9 => h9) rfl dX3_mix_329 ?_
          refine lv_iconst (v := nI 3) hx hb dX3_mix_332 (by decide) ?_
          refine lv_dup2_11 hx hb dX3_mix_333 rfl rfl ?_
          refine rd_i hx hb hK hP 8 rfl 3 (by omega) (by omega) dX3_mix_334 ?_
          refine top_i (gh 3) rfl ?_
          refine lv_iload hx hb dX3_mix_335 (lv_at hl 4 rfl) ?_
          refine lv_iadd hx hb dX3_mix_337 ?_
          refine wr_i hx hb hK hP hD hS 8 rfl 3 (by omega) (by omega) dX3_mix_338 (fun H locs hP hD hS => ?_)
          have hP : va_P G.1 vwCl (wMd G b gc gd gw gf gp ga gb (upd (upd (upd (upd gh 0 ((gh 0) + v1)) 1 ((gh 1) + v2)) 2 ((gh 2) + v3)) 3 ((gh 3) + v4)) gg (p_sprN gx 48) ge n k z t kn pl lf pn) H := hP
          have hD : va_D A (wMd G b gc gd gw gf gp ga gb (upd (upd (upd (upd gh 0 ((gh 0) + v1)) 1 ((gh 1) + v2)) 2 ((gh 2) + v3)) 3 ((gh 3) + v4)) gg (p_sprN gx 48) ge n k z t kn pl lf pn) := hD
          refine lv_aload_n hx hb dX3_mix_339 rfl (lv_at hl 0 rfl) ?_
          refine va_get (D := G.1) (ci := 3) (v := .ref (b 8)) (C := RX3) (T := TX3) (N := 19) hx hb hts hiX3 hown hK hP 0 rfl rfl 15 (by decide) lk36 (fun _ h9 => h9) rfl dX3_mix_340 ?_
          refine lv_iconst (v := nI 4) hx hb dX3_mix_343 (by decide) ?_
          refine lv_dup2_11 hx hb dX3_mix_344 rfl rfl ?_
          refine rd_i hx hb hK hP 8 rfl 4 (by omega) (by omega) dX3_mix_345 ?_
          refine top_i (gh 4) rfl ?_
          refine lv_iload hx hb dX3_mix_346 (lv_at hl 5 rfl) ?_
          refine lv_iadd hx hb dX3_mix_348 ?_
          refine wr_i hx hb hK hP hD hS 8 rfl 4 (by omega) (by omega) dX3_mix_349 (fun H locs hP hD hS => ?_)
          have hP : va_P G.1 vwCl (wMd G b gc gd gw gf gp ga gb (upd (upd (upd (upd (upd gh 0 ((gh 0) + v1)) 1 ((gh 1) + v2)) 2 ((gh 2) + v3)) 3 ((gh 3) + v4)) 4 ((gh 4) + v5)) gg (p_sprN gx 48) ge n k z t kn pl lf pn) H := hP
          have hD : va_D A (wMd G b gc gd gw gf gp ga gb (upd (upd (upd (upd (upd gh 0 ((gh 0) + v1)) 1 ((gh 1) + v2)) 2 ((gh 2) + v3)) 3 ((gh 3) + v4)) 4 ((gh 4) + v5)) gg (p_sprN gx 48) ge n k z t kn pl lf pn) := hD
          refine lv_aload_n hx hb dX3_mix_350 rfl (lv_at hl 0 rfl) ?_
          refine va_get (D := G.1) (ci := 3) (v := .ref (b 8)) (C := RX3) (T := TX3) (N := 19) hx hb hts hiX3 hown hK hP 0 rfl rfl 15 (by decide) lk36 (fun _ h9 => h9) rfl dX3_mix_351 ?_
          refine lv_iconst (v := nI 5) hx hb dX3_mix_354 (by decide) ?_
          refine lv_dup2_11 hx hb dX3_mix_355 rfl rfl ?_
          refine rd_i hx hb hK hP 8 rfl 5 (by omega) (by omega) dX3_mix_356 ?_
          refine top_i (gh 5) rfl ?_
          refine lv_iload hx hb dX3_mix_357 (lv_at hl 6 rfl) ?_
          refine lv_iadd hx hb dX3_mix_359 ?_
          refine wr_i hx hb hK hP hD hS 8 rfl 5 (by omega) (by omega) dX3_mix_360 (fun H locs hP hD hS => ?_)
          have hP : va_P G.1 vwCl (wMd G b gc gd gw gf gp ga gb (upd (upd (upd (upd (upd (upd gh 0 ((gh 0) + v1)) 1 ((gh 1) + v2)) 2 ((gh 2) + v3)) 3 ((gh 3) + v4)) 4 ((gh 4) + v5)) 5 ((gh 5) + v6)) gg (p_sprN gx 48) ge n k z t kn pl lf pn) H := hP
          have hD : va_D A (wMd G b gc gd gw gf gp ga gb (upd (upd (upd (upd (upd (upd gh 0 ((gh 0) + v1)) 1 ((gh 1) + v2)) 2 ((gh 2) + v3)) 3 ((gh 3) + v4)) 4 ((gh 4) + v5)) 5 ((gh 5) + v6)) gg (p_sprN gx 48) ge n k z t kn pl lf pn) := hD
          refine lv_aload_n hx hb dX3_mix_361 rfl (lv_at hl 0 rfl) ?_
          refine va_get (D := G.1) (ci := 3) (v := .ref (b 8)) (C := RX3) (T := TX3) (N := 19) hx hb hts hiX3 hown hK hP 0 rfl rfl 15 (by decide) lk36 (fun _ h9 => h9) rfl dX3_mix_362 ?_
          refine lv_bipush (v := nI 6) hx hb dX3_mix_365 (by decide) ?_
          refine lv_dup2_11 hx hb dX3_mix_367 rfl rfl ?_
          refine rd_i hx hb hK hP 8 rfl 6 (by omega) (by omega) dX3_mix_368 ?_
          refine top_i (gh 6) rfl ?_
          refine lv_iload hx hb dX3_mix_369 (lv_at hl 7 rfl) ?_
          refine lv_iadd hx hb dX3_mix_371 ?_
          refine wr_i hx hb hK hP hD hS 8 rfl 6 (by omega) (by omega) dX3_mix_372 (fun H locs hP hD hS => ?_)
          have hP : va_P G.1 vwCl (wMd G b gc gd gw gf gp ga gb (upd (upd (upd (upd (upd (upd (upd gh 0 ((gh 0) + v1)) 1 ((gh 1) + v2)) 2 ((gh 2) + v3)) 3 ((gh 3) + v4)) 4 ((gh 4) + v5)) 5 ((gh 5) + v6)) 6 ((gh 6) + v7)) gg (p_sprN gx 48) ge n k z t kn pl lf pn) H := hP
          have hD : va_D A (wMd G b gc gd gw gf gp ga gb (upd (upd (upd (upd (upd (upd (upd gh 0 ((gh 0) + v1)) 1 ((gh 1) + v2)) 2 ((gh 2) + v3)) 3 ((gh 3) + v4)) 4 ((gh 4) + v5)) 5 ((gh 5) + v6)) 6 ((gh 6) + v7)) gg (p_sprN gx 48) ge n k z t kn pl lf pn) := hD
          refine lv_aload_n hx hb dX3_mix_373 rfl (lv_at hl 0 rfl) ?_
          refine va_get (D := G.1) (ci := 3) (v := .ref (b 8)) (C := RX3) (T := TX3) (N := 19) hx hb hts hiX3 hown hK hP 0 rfl rfl 15 (by decide) lk36 (fun _ h9 => h9) rfl dX3_mix_374 ?_
          refine lv_bipush (v := nI 7) hx hb dX3_mix_377 (by decide) ?_
          refine lv_dup2_11 hx hb dX3_mix_379 rfl rfl ?_
          refine rd_i hx hb hK hP 8 rfl 7 (by omega) (by omega) dX3_mix_380 ?_
          refine top_i (gh 7) rfl ?_
          refine lv_iload hx hb dX3_mix_381 (lv_at hl 8 rfl) ?_
          refine lv_iadd hx hb dX3_mix_383 ?_
          refine wr_i hx hb hK hP hD hS 8 rfl 7 (by omega) (by omega) dX3_mix_384 (fun H locs hP hD hS => ?_)
          have hP : va_P G.1 vwCl (wMd G b gc gd gw gf gp ga gb (upd (upd (upd (upd (upd (upd (upd (upd gh 0 ((gh 0) + v1)) 1 ((gh 1) + v2)) 2 ((gh 2) + v3)) 3 ((gh 3) + v4)) 4 ((gh 4) + v5)) 5 ((gh 5) + v6)) 6 ((gh 6) + v7)) 7 ((gh 7) + v8)) gg (p_sprN gx 48) ge n k z t kn pl lf pn) H := hP
          have hD : va_D A (wMd G b gc gd gw gf gp ga gb (upd (upd (upd (upd (upd (upd (upd (upd gh 0 ((gh 0) + v1)) 1 ((gh 1) + v2)) 2 ((gh 2) + v3)) 3 ((gh 3) + v4)) 4 ((gh 4) + v5)) 5 ((gh 5) + v6)) 6 ((gh 6) + v7)) 7 ((gh 7) + v8)) gg (p_sprN gx 48) ge n k z t kn pl lf pn) := hD
          have em : p_mix gh gx = p_add gh (v1, v2, v3, v4, v5, v6, v7, v8) := by rw [hst]; rfl
          have hP : va_P G.1 vwCl (wMd G b gc gd gw gf gp ga gb (p_mix gh gx) gg (p_sprN gx 48) ge n k z t kn pl lf pn) H := by rw [em]; exact hP
          have hD : va_D A (wMd G b gc gd gw gf gp ga gb (p_mix gh gx) gg (p_sprN gx 48) ge n k z t kn pl lf pn) := by rw [em]; exact hD
          exact ret 385 _ _ _ () dX3_mix_385 (trivial) hP hD hS
        · refine lv_iload hx hb dX3_mix_169 (lv_at hl 8 rfl) ?_
          refine lv_iload hx hb dX3_mix_171 (lv_at hl 5 rfl) ?_
          refine lv_bipush (v := nI 6) hx hb dX3_mix_173 (by decide) ?_
          refine call_Si (wr := ([(b 0, .inr (3, [.ref (b 1), .int (nI n), .ref (b 2), .ref (b 3), .int (nI k), .int (nI z), .int (nI t), .int kn, .ref (b 4), .int (nI pl), .int (nI lf), .ref (b 5), .int (nI pn), .ref (b 6), .ref (b 7), .ref (b 8), .ref (b 9), .ref (b 10), .ref (b 11)])), (b 1, .inl (G.2.2.1, 2040, .inl gc)), (b 2, .inl (G.2.2.1, 8, .inl gd)), (b 3, .inl (G.2.2.1, 8, .inl gw)), (b 4, .inl (G.2.2.2, 1024, .inl gf)), (b 5, .inl (G.2.2.1, 1600, .inl gp)), (b 6, .inl (G.2.2.1, 64, .inl ga)), (b 7, .inl (G.2.2.1, 8, .inl gb)), (b 8, .inl (G.2.2.1, 8, .inl gh)), (b 9, .inl (G.2.2.1, 8, .inl gg)), (b 10, .inl (G.2.2.1, 64, .inl (p_sprN gx 48))), (b 11, .inl (G.2.2.1, 26, .inl ge))] : va_W)) [.int v5, .int (nI 6)] [.int v8] ⟨hx, hb, hml, hown, hts⟩ hK hX hA hP hD hS (m_turned l G _ v5 (nI 6)) (va_cwS 2 hts gX3_mix_X3_turned rfl rfl rfl (by decide +kernel) ⟨Nat.le_of_ble_eq_true rfl, Nat.le_of_ble_eq_true rfl⟩) [] [0, 1, 2, 3, 4, 5, 6, 7, 8, 9, 10, 11] rfl rfl (by decide) (by decide) (by decide) rfl hl.1 (Nat.le_of_ble_eq_true rfl) dX3_mix_175 ⟨Nat.zero_le _, Nat.zero_le _⟩ (fun r_3 u H locs hw hP hD hS => ?_)
          obtain rfl := hw
          have hP : va_P G.1 vwCl (wMd G b gc gd gw gf gp ga gb gh gg (p_sprN gx 48) ge n k z t kn pl lf pn) H := hP
          have hD : va_D A (wMd G b gc gd gw gf gp ga gb gh gg (p_sprN gx 48) ge n k z t kn pl lf pn) := hD
          refine lv_iload hx hb dX3_mix_178 (lv_at hl 5 rfl) ?_
          refine lv_bipush (v := nI 11) hx hb dX3_mix_180 (by decide) ?_
          refine call_Si (wr := ([(b 0, .inr (3, [.ref (b 1), .int (nI n), .ref (b 2), .ref (b 3), .int (nI k), .int (nI z), .int (nI t), .int kn, .ref (b 4), .int (nI pl), .int (nI lf), .ref (b 5), .int (nI pn), .ref (b 6), .ref (b 7), .ref (b 8), .ref (b 9), .ref (b 10), .ref (b 11)])), (b 1, .inl (G.2.2.1, 2040, .inl gc)), (b 2, .inl (G.2.2.1, 8, .inl gd)), (b 3, .inl (G.2.2.1, 8, .inl gw)), (b 4, .inl (G.2.2.2, 1024, .inl gf)), (b 5, .inl (G.2.2.1, 1600, .inl gp)), (b 6, .inl (G.2.2.1, 64, .inl ga)), (b 7, .inl (G.2.2.1, 8, .inl gb)), (b 8, .inl (G.2.2.1, 8, .inl gh)), (b 9, .inl (G.2.2.1, 8, .inl gg)), (b 10, .inl (G.2.2.1, 64, .inl (p_sprN gx 48))), (b 11, .inl (G.2.2.1, 26, .inl ge))] : va_W)) [.int v5, .int (nI 11)] [.int (p_rot v5 (nI 6)), .int v8] ⟨hx, hb, hml, hown, hts⟩ hK hX hA hP hD hS (m_turned l G _ v5 (nI 11)) (va_cwS 2 hts gX3_mix_X3_turned rfl rfl rfl (by decide +kernel) ⟨Nat.le_of_ble_eq_true rfl, Nat.le_of_ble_eq_true rfl⟩) [] [0, 1, 2, 3, 4, 5, 6, 7, 8, 9, 10, 11] rfl rfl (by decide) (by decide) (by decide) rfl hl.1 (Nat.le_of_ble_eq_true rfl) dX3_mix_182 ⟨Nat.zero_le _, Nat.zero_le _⟩ (fun r_4 u H locs hw hP hD hS => ?_)
          obtain rfl := hw
          have hP : va_P G.1 vwCl (wMd G b gc gd gw gf gp ga gb gh gg (p_sprN gx 48) ge n k z t kn pl lf pn) H := hP
          have hD : va_D A (wMd G b gc gd gw gf gp ga gb gh gg (p_sprN gx 48) ge n k z t kn pl lf pn) := hD
          refine lv_ixor hx hb dX3_mix_185 ?_
          refine lv_iload hx hb dX3_mix_186 (lv_at hl 5 rfl) ?_
          refine lv_bipush (v := nI 25) hx hb dX3_mix_188 (by decide) ?_
          refine call_Si (wr := ([(b 0, .inr (3, [.ref (b 1), .int (nI n), .ref (b 2), .ref (b 3), .int (nI k), .int (nI z), .int (nI t), .int kn, .ref (b 4), .int (nI pl), .int (nI lf), .ref (b 5), .int (nI pn), .ref (b 6), .ref (b 7), .ref (b 8), .ref (b 9), .ref (b 10), .ref (b 11)])), (b 1, .inl (G.2.2.1, 2040, .inl gc)), (b 2, .inl (G.2.2.1, 8, .inl gd)), (b 3, .inl (G.2.2.1, 8, .inl gw)), (b 4, .inl (G.2.2.2, 1024, .inl gf)), (b 5, .inl (G.2.2.1, 1600, .inl gp)), (b 6, .inl (G.2.2.1, 64, .inl ga)), (b 7, .inl (G.2.2.1, 8, .inl gb)), (b 8, .inl (G.2.2.1, 8, .inl gh)), (b 9, .inl (G.2.2.1, 8, .inl gg)), (b 10, .inl (G.2.2.1, 64, .inl (p_sprN gx 48))), (b 11, .inl (G.2.2.1, 26, .inl ge))] : va_W)) [.int v5, .int (nI 25)] [.int ((p_rot v5 (nI 6)) ^^^ (p_rot v5 (nI 11))), .int v8] ⟨hx, hb, hml, hown, hts⟩ hK hX hA hP hD hS (m_turned l G _ v5 (nI 25)) (va_cwS 2 hts gX3_mix_X3_turned rfl rfl rfl (by decide +kernel) ⟨Nat.le_of_ble_eq_true rfl, Nat.le_of_ble_eq_true rfl⟩) [] [0, 1, 2, 3, 4, 5, 6, 7, 8, 9, 10, 11] rfl rfl (by decide) (by decide) (by decide) rfl hl.1 (Nat.le_of_ble_eq_true rfl) dX3_mix_190 ⟨Nat.zero_le _, Nat.zero_le _⟩ (fun r_5 u H locs hw hP hD hS => ?_)
          obtain rfl := hw
          have hP : va_P G.1 vwCl (wMd G b gc gd gw gf gp ga gb gh gg (p_sprN gx 48) ge n k z t kn pl lf pn) H := hP
          have hD : va_D A (wMd G b gc gd gw gf gp ga gb gh gg (p_sprN gx 48) ge n k z t kn pl lf pn) := hD
          refine lv_ixor hx hb dX3_mix_193 ?_
          refine lv_iadd hx hb dX3_mix_194 ?_
          refine lv_iload hx hb dX3_mix_195 (lv_at hl 5 rfl) ?_
          refine lv_iload hx hb dX3_mix_197 (lv_at hl 6 rfl) ?_
          refine lv_iand hx hb dX3_mix_199 ?_
          refine lv_iload hx hb dX3_mix_200 (lv_at hl 5 rfl) ?_
          refine lv_iconst (v := (-1)) hx hb dX3_mix_202 (by decide) ?_
          refine lv_ixor hx hb dX3_mix_203 ?_
          refine lv_iload hx hb dX3_mix_204 (lv_at hl 7 rfl) ?_
          refine lv_iand hx hb dX3_mix_206 ?_
          refine lv_ixor hx hb dX3_mix_207 ?_
          refine lv_iadd hx hb dX3_mix_208 ?_
          refine lv_aload_n hx hb dX3_mix_209 rfl (lv_at hl 0 rfl) ?_
          refine va_get (D := G.1) (ci := 3) (v := .ref (b 6)) (C := RX3) (T := TX3) (N := 19) hx hb hts hiX3 hown hK hP 0 rfl rfl 13 (by decide) lk30 (fun _ h9 => h9) rfl dX3_mix_210 ?_
          refine lv_iload hx hb dX3_mix_213 (lv_at hl 9 rfl) ?_
          refine rd_i hx hb hK hP 6 rfl w1 (by omega) (by omega) dX3_mix_215 ?_
          refine lv_iadd hx hb dX3_mix_216 ?_
          refine lv_aload_n hx hb dX3_mix_217 rfl (lv_at hl 0 rfl) ?_
          refine va_get (D := G.1) (ci := 3) (v := .ref (b 10)) (C := RX3) (T := TX3) (N := 19) hx hb hts hiX3 hown hK hP 0 rfl rfl 17 (by decide) lk42 (fun _ h9 => h9) rfl dX3_mix_218 ?_
          refine lv_iload hx hb dX3_mix_221 (lv_at hl 9 rfl) ?_
          refine rd_i hx hb hK hP 10 rfl w1 (by omega) (by omega) dX3_mix_223 ?_
          refine lv_iadd hx hb dX3_mix_224 ?_
          refine lv_istore (lv' := [(10, .int ((((v8 + (((p_rot v5 (nI 6)) ^^^ (p_rot v5 (nI 11))) ^^^ (p_rot v5 (nI 25)))) + ((v5 &&& v6) ^^^ ((v5 ^^^ (-1)) &&& v7))) + (ga w1)) + ((p_sprN gx 48) w1))), (0, .ref (b 0)), (1, .int v1), (2, .int v2), (3, .int v3), (4, .int v4), (5, .int v5), (6, .int v6), (7, .int v7), (8, .int v8), (9, .int (nI w1))]) hx hb dX3_mix_225 hl (by decide) rfl (fun ls hl => ?_)
          refine lv_iload_n hx hb dX3_mix_227 rfl (lv_at hl 2 rfl) ?_
          refine lv_iconst (v := nI 2) hx hb dX3_mix_228 (by decide) ?_
          refine call_Si (wr := ([(b 0, .inr (3, [.ref (b 1), .int (nI n), .ref (b 2), .ref (b 3), .int (nI k), .int (nI z), .int (nI t), .int kn, .ref (b 4), .int (nI pl), .int (nI lf), .ref (b 5), .int (nI pn), .ref (b 6), .ref (b 7), .ref (b 8), .ref (b 9), .ref (b 10), .ref (b 11)])), (b 1, .inl (G.2.2.1, 2040, .inl gc)), (b 2, .inl (G.2.2.1, 8, .inl gd)), (b 3, .inl (G.2.2.1, 8, .inl gw)), (b 4, .inl (G.2.2.2, 1024, .inl gf)), (b 5, .inl (G.2.2.1, 1600, .inl gp)), (b 6, .inl (G.2.2.1, 64, .inl ga)), (b 7, .inl (G.2.2.1, 8, .inl gb)), (b 8, .inl (G.2.2.1, 8, .inl gh)), (b 9, .inl (G.2.2.1, 8, .inl gg)), (b 10, .inl (G.2.2.1, 64, .inl (p_sprN gx 48))), (b 11, .inl (G.2.2.1, 26, .inl ge))] : va_W)) [.int v1, .int (nI 2)] [] ⟨hx, hb, hml, hown, hts⟩ hK hX hA hP hD hS (m_turned l G _ v1 (nI 2)) (va_cwS 2 hts gX3_mix_X3_turned rfl rfl rfl (by decide +kernel) ⟨Nat.le_of_ble_eq_true rfl, Nat.le_of_ble_eq_true rfl⟩) [] [0, 1, 2, 3, 4, 5, 6, 7, 8, 9, 10, 11] rfl rfl (by decide) (by decide) (by decide) rfl hl.1 (Nat.le_of_ble_eq_true rfl) dX3_mix_229 ⟨Nat.zero_le _, Nat.zero_le _⟩ (fun r_6 u H locs hw hP hD hS => ?_)
          obtain rfl := hw
          have hP : va_P G.1 vwCl (wMd G b gc gd gw gf gp ga gb gh gg (p_sprN gx 48) ge n k z t kn pl lf pn) H := hP
          have hD : va_D A (wMd G b gc gd gw gf gp ga gb gh gg (p_sprN gx 48) ge n k z t kn pl lf pn) := hD
          refine lv_iload_n hx hb dX3_mix_232 rfl (lv_at hl 2 rfl) ?_
          refine lv_bipush (v := nI 13) hx hb dX3_mix_233 (by decide) ?_
          refine call_Si (wr := ([(b 0, .inr (3, [.ref (b 1), .int (nI n), .ref (b 2), .ref (b 3), .int (nI k), .int (nI z), .int (nI t), .int kn, .ref (b 4), .int (nI pl), .int (nI lf), .ref (b 5), .int (nI pn), .ref (b 6), .ref (b 7), .ref (b 8), .ref (b 9), .ref (b 10), .ref (b 11)])), (b 1, .inl (G.2.2.1, 2040, .inl gc)), (b 2, .inl (G.2.2.1, 8, .inl gd)), (b 3, .inl (G.2.2.1, 8, .inl gw)), (b 4, .inl (G.2.2.2, 1024, .inl gf)), (b 5, .inl (G.2.2.1, 1600, .inl gp)), (b 6, .inl (G.2.2.1, 64, .inl ga)), (b 7, .inl (G.2.2.1, 8, .inl gb)), (b 8, .inl (G.2.2.1, 8, .inl gh)), (b 9, .inl (G.2.2.1, 8, .inl gg)), (b 10, .inl (G.2.2.1, 64, .inl (p_sprN gx 48))), (b 11, .inl (G.2.2.1, 26, .inl ge))] : va_W)) [.int v1, .int (nI 13)] [.int (p_rot v1 (nI 2))] ⟨hx, hb, hml, hown, hts⟩ hK hX hA hP hD hS (m_turned l G _ v1 (nI 13)) (va_cwS 2 hts gX3_mix_X3_turned rfl rfl rfl (by decide +kernel) ⟨Nat.le_of_ble_eq_true rfl, Nat.le_of_ble_eq_true rfl⟩) [] [0, 1, 2, 3, 4, 5, 6, 7, 8, 9, 10, 11] rfl rfl (by decide) (by decide) (by decide) rfl hl.1 (Nat.le_of_ble_eq_true rfl) dX3_mix_235 ⟨Nat.zero_le _, Nat.zero_le _⟩ (fun r_7 u H locs hw hP hD hS => ?_)
          obtain rfl := hw
          have hP : va_P G.1 vwCl (wMd G b gc gd gw gf gp ga gb gh gg (p_sprN gx 48) ge n k z t kn pl lf pn) H := hP
          have hD : va_D A (wMd G b gc gd gw gf gp ga gb gh gg (p_sprN gx 48) ge n k z t kn pl lf pn) := hD
          refine lv_ixor hx hb dX3_mix_238 ?_
          refine lv_iload_n hx hb dX3_mix_239 rfl (lv_at hl 2 rfl) ?_
          refine lv_bipush (v := nI 22) hx hb dX3_mix_240 (by decide) ?_
          refine call_Si (wr := ([(b 0, .inr (3, [.ref (b 1), .int (nI n), .ref (b 2), .ref (b 3), .int (nI k), .int (nI z), .int (nI t), .int kn, .ref (b 4), .int (nI pl), .int (nI lf), .ref (b 5), .int (nI pn), .ref (b 6), .ref (b 7), .ref (b 8), .ref (b 9), .ref (b 10), .ref (b 11)])), (b 1, .inl (G.2.2.1, 2040, .inl gc)), (b 2, .inl (G.2.2.1, 8, .inl gd)), (b 3, .inl (G.2.2.1, 8, .inl gw)), (b 4, .inl (G.2.2.2, 1024, .inl gf)), (b 5, .inl (G.2.2.1, 1600, .inl gp)), (b 6, .inl (G.2.2.1, 64, .inl ga)), (b 7, .inl (G.2.2.1, 8, .inl gb)), (b 8, .inl (G.2.2.1, 8, .inl gh)), (b 9, .inl (G.2.2.1, 8, .inl gg)), (b 10, .inl (G.2.2.1, 64, .inl (p_sprN gx 48))), (b 11, .inl (G.2.2.1, 26, .inl ge))] : va_W)) [.int v1, .int (nI 22)] [.int ((p_rot v1 (nI 2)) ^^^ (p_rot v1 (nI 13)))] ⟨hx, hb, hml, hown, hts⟩ hK hX hA hP hD hS (m_turned l G _ v1 (nI 22)) (va_cwS 2 hts gX3_mix_X3_turned rfl rfl rfl (by decide +kernel) ⟨Nat.le_of_ble_eq_true rfl, Nat.le_of_ble_eq_true rfl⟩) [] [0, 1, 2, 3, 4, 5, 6, 7, 8, 9, 10, 11] rfl rfl (by decide) (by decide) (by decide) rfl hl.1 (Nat.le_of_ble_eq_true rfl) dX3_mix_242 ⟨Nat.zero_le _, Nat.zero_le _⟩ (fun r_8 u H locs hw hP hD hS => ?_)
          obtain rfl := hw
          have hP : va_P G.1 vwCl (wMd G b gc gd gw gf gp ga gb gh gg (p_sprN gx 48) ge n k z t kn pl lf pn) H := hP
          have hD : va_D A (wMd G b gc gd gw gf gp ga gb gh gg (p_sprN gx 48) ge n k z t kn pl lf pn) := hD
          refine lv_ixor hx hb dX3_mix_245 ?_
          refine lv_iload_n hx hb dX3_mix_246 rfl (lv_at hl 2 rfl) ?_
          refine lv_iload_n hx hb dX3_mix_247 rfl (lv_at hl 3 rfl) ?_
          refine lv_iand hx hb dX3_mix_248 ?_
          refine lv_iload_n hx hb dX3_mix_249 rfl (lv_at hl 2 rfl) ?_
          refine lv_iload_n hx hb dX3_mix_250 rfl (lv_at hl 4 rfl) ?_
          refine lv_iand hx hb dX3_mix_251 ?_
          refine lv_ixor hx hb dX3_mix_252 ?_
          refine lv_iload_n hx hb dX3_mix_253 rfl (lv_at hl 3 rfl) ?_
          refine lv_iload_n hx hb dX3_mix_254 rfl (lv_at hl 4 rfl) ?_
          refine lv_iand hx hb dX3_mix_255 ?_
          refine lv_ixor hx hb dX3_mix_256 ?_
          refine lv_iadd hx hb dX3_mix_257 ?_
          refine lv_istore (lv' := [(11, .int ((((p_rot v1 (nI 2)) ^^^ (p_rot v1 (nI 13))) ^^^ (p_rot v1 (nI 22))) + (((v1 &&& v2) ^^^ (v1 &&& v3)) ^^^ (v2 &&& v3)))), (10, .int ((((v8 + (((p_rot v5 (nI 6)) ^^^ (p_rot v5 (nI 11))) ^^^ (p_rot v5 (nI 25)))) + ((v5 &&& v6) ^^^ ((v5 ^^^ (-1)) &&& v7))) + (ga w1)) + ((p_sprN gx 48) w1))), (0, .ref (b 0)), (1, .int v1), (2, .int v2), (3, .int v3), (4, .int v4), (5, .int v5), (6, .int v6), (7, .int v7), (8, .int v8), (9, .int (nI w1))]) hx hb dX3_mix_258 hl (by decide) rfl (fun ls hl => ?_)
          refine lv_iload hx hb dX3_mix_260 (lv_at hl 9 rfl) ?_
          refine lv_istore (lv' := [(8, .int v7), (11, .int ((((p_rot v1 (nI 2)) ^^^ (p_rot v1 (nI 13))) ^^^ (p_rot v1 (nI 22))) + (((v1 &&& v2) ^^^ (v1 &&& v3)) ^^^ (v2 &&& v3)))), (10, .int ((((v8 + (((p_rot v5 (nI 6)) ^^^ (p_rot v5 (nI 11))) ^^^ (p_rot v5 (nI 25)))) + ((v5 &&& v6) ^^^ ((v5 ^^^ (-1)) &&& v7))) + (ga w1)) + ((p_sprN gx 48) w1))), (0, .ref (b 0)), (1, .int v1), (2, .int v2), (3, .int v3), (4, .int v4), (5, .int v5), (6, .int v6), (7, .int v7), (9, .int (nI w1))]) hx hb dX3_mix_262 hl (by decide) rfl (fun ls hl => ?_)
          refine lv_iload hx hb dX3_mix_264 (lv_at hl 9 rfl) ?_
          refine lv_istore (lv' := [(7, .int v6), (8, .int v7), (11, .int ((((p_rot v1 (nI 2)) ^^^ (p_rot v1 (nI 13))) ^^^ (p_rot v1 (nI 22))) + (((v1 &&& v2) ^^^ (v1 &&& v3)) ^^^ (v2 &&& v3)))), (10, .int ((((v8 + (((p_rot v5 (nI 6)) ^^^ (p_rot v5 (nI 11))) ^^^ (p_rot v5 (nI 25)))) + ((v5 &&& v6) ^^^ ((v5 ^^^ (-1)) &&& v7))) + (ga w1)) + ((p_sprN gx 48) w1))), (0, .ref (b 0)), (1, .int v1), (2, .int v2), (3, .int v3), (4, .int v4), (5, .int v5), (6, .int v6), (9, .int (nI w1))]) hx hb dX3_mix_266 hl (by decide) rfl (fun ls hl => ?_)
          refine lv_iload hx hb dX3_mix_268 (lv_at hl 9 rfl) ?_
          refine lv_istore (lv' := [(6, .int v5), (7, .int v6), (8, .int v7), (11, .int ((((p_rot v1 (nI 2)) ^^^ (p_rot v1 (nI 13))) ^^^ (p_rot v1 (nI 22))) + (((v1 &&& v2) ^^^ (v1 &&& v3)) ^^^ (v2 &&& v3)))), (10, .int ((((v8 + (((p_rot v5 (nI 6)) ^^^ (p_rot v5 (nI 11))) ^^^ (p_rot v5 (nI 25)))) + ((v5 &&& v6) ^^^ ((v5 ^^^ (-1)) &&& v7))) + (ga w1)) + ((p_sprN gx 48) w1))), (0, .ref (b 0)), (1, .int v1), (2, .int v2), (3, .int v3), (4, .int v4), (5, .int v5), (9, .int (nI w1))]) hx hb dX3_mix_270 hl (by decide) rfl (fun ls hl => ?_)
          refine lv_iload hx hb dX3_mix_272 (lv_at hl 9 rfl) ?_
          refine lv_iload hx hb dX3_mix_274 (lv_at hl 4 rfl) ?_
          refine lv_iadd hx hb dX3_mix_276 ?_
          refine lv_istore (lv' := [(5, .int (v4 + ((((v8 + (((p_rot v5 (nI 6)) ^^^ (p_rot v5 (nI 11))) ^^^ (p_rot v5 (nI 25)))) + ((v5 &&& v6) ^^^ ((v5 ^^^ (-1)) &&& v7))) + (ga w1)) + ((p_sprN gx 48) w1)))), (6, .int v5), (7, .int v6), (8, .int v7), (11, .int ((((p_rot v1 (nI 2)) ^^^ (p_rot v1 (nI 13))) ^^^ (p_rot v1 (nI 22))) + (((v1 &&& v2) ^^^ (v1 &&& v3)) ^^^ (v2 &&& v3)))), (10, .int ((((v8 + (((p_rot v5 (nI 6)) ^^^ (p_rot v5 (nI 11))) ^^^ (p_rot v5 (nI 25)))) + ((v5 &&& v6) ^^^ ((v5 ^^^ (-1)) &&& v7))) + (ga w1)) + ((p_sprN gx 48) w1))), (0, .ref (b 0)), (1, .int v1), (2, .int v2), (3, .int v3), (4, .int v4), (9, .int (nI w1))]) hx hb dX3_mix_277 hl (by decide) rfl (fun ls hl => ?_)
          refine lv_iload_n hx hb dX3_mix_279 rfl (lv_at hl 9 rfl) ?_
          refine lv_istore (lv' := [(4, .int v3), (5, .int (v4 + ((((v8 + (((p_rot v5 (nI 6)) ^^^ (p_rot v5 (nI 11))) ^^^ (p_rot v5 (nI 25)))) + ((v5 &&& v6) ^^^ ((v5 ^^^ (-1)) &&& v7))) + (ga w1)) + ((p_sprN gx 48) w1)))), (6, .int v5), (7, .int v6), (8, .int v7), (11, .int ((((p_rot v1 (nI 2)) ^^^ (p_rot v1 (nI 13))) ^^^ (p_rot v1 (nI 22))) + (((v1 &&& v2) ^^^ (v1 &&& v3)) ^^^ (v2 &&& v3)))), (10, .int ((((v8 + (((p_rot v5 (nI 6)) ^^^ (p_rot v5 (nI 11))) ^^^ (p_rot v5 (nI 25)))) + ((v5 &&& v6) ^^^ ((v5 ^^^ (-1)) &&& v7))) + (ga w1)) + ((p_sprN gx 48) w1))), (0, .ref (b 0)), (1, .int v1), (2, .int v2), (3, .int v3), (9, .int (nI w1))]) hx hb dX3_mix_280 hl (by decide) rfl (fun ls hl => ?_)
          refine lv_iload_n hx hb dX3_mix_282 rfl (lv_at hl 9 rfl) ?_
          refine lv_istore_n (lv' := [(3, .int v2), (4, .int v3), (5, .int (v4 + ((((v8 + (((p_rot v5 (nI 6)) ^^^ (p_rot v5 (nI 11))) ^^^ (p_rot v5 (nI 25)))) + ((v5 &&& v6) ^^^ ((v5 ^^^ (-1)) &&& v7))) + (ga w1)) + ((p_sprN gx 48) w1)))), (6, .int v5), (7, .int v6), (8, .int v7), (11, .int ((((p_rot v1 (nI 2)) ^^^ (p_rot v1 (nI 13))) ^^^ (p_rot v1 (nI 22))) + (((v1 &&& v2) ^^^ (v1 &&& v3)) ^^^ (v2 &&& v3)))), (10, .int ((((v8 + (((p_rot v5 (nI 6)) ^^^ (p_rot v5 (nI 11))) ^^^ (p_rot v5 (nI 25)))) + ((v5 &&& v6) ^^^ ((v5 ^^^ (-1)) &&& v7))) + (ga w1)) + ((p_sprN gx 48) w1))), (0, .ref (b 0)), (1, .int v1), (2, .int v2), (9, .int (nI w1))]) hx hb dX3_mix_283 rfl hl (by decide) rfl (fun ls hl => ?_)
          refine lv_iload_n hx hb dX3_mix_284 rfl (lv_at hl 9 rfl) ?_
          refine lv_istore_n (lv' := [(2, .int v1), (3, .int v2), (4, .int v3), (5, .int (v4 + ((((v8 + (((p_rot v5 (nI 6)) ^^^ (p_rot v5 (nI 11))) ^^^ (p_rot v5 (nI 25)))) + ((v5 &&& v6) ^^^ ((v5 ^^^ (-1)) &&& v7))) + (ga w1)) + ((p_sprN gx 48) w1)))), (6, .int v5), (7, .int v6), (8, .int v7), (11, .int ((((p_rot v1 (nI 2)) ^^^ (p_rot v1 (nI 13))) ^^^ (p_rot v1 (nI 22))) + (((v1 &&& v2) ^^^ (v1 &&& v3)) ^^^ (v2 &&& v3)))), (10, .int ((((v8 + (((p_rot v5 (nI 6)) ^^^ (p_rot v5 (nI 11))) ^^^ (p_rot v5 (nI 25)))) + ((v5 &&& v6) ^^^ ((v5 ^^^ (-1)) &&& v7))) + (ga w1)) + ((p_sprN gx 48) w1))), (0, .ref (b 0)), (1, .int v1), (9, .int (nI w1))]) hx hb dX3_mix_285 rfl hl (by decide) rfl (fun ls hl => ?_)
          refine lv_iload hx hb dX3_mix_286 (lv_at hl 8 rfl) ?_
          refine lv_iload hx hb dX3_mix_288 (lv_at hl 7 rfl) ?_
          refine lv_iadd hx hb dX3_mix_290 ?_
          refine lv_istore_n (lv' := [(1, .int (((((v8 + (((p_rot v5 (nI 6)) ^^^ (p_rot v5 (nI 11))) ^^^ (p_rot v5 (nI 25)))) + ((v5 &&& v6) ^^^ ((v5 ^^^ (-1)) &&& v7))) + (ga w1)) + ((p_sprN gx 48) w1)) + ((((p_rot v1 (nI 2)) ^^^ (p_rot v1 (nI 13))) ^^^ (p_rot v1 (nI 22))) + (((v1 &&& v2) ^^^ (v1 &&& v3)) ^^^ (v2 &&& v3))))), (2, .int v1), (3, .int v2), (4, .int v3), (5, .int (v4 + ((((v8 + (((p_rot v5 (nI 6)) ^^^ (p_rot v5 (nI 11))) ^^^ (p_rot v5 (nI 25)))) + ((v5 &&& v6) ^^^ ((v5 ^^^ (-1)) &&& v7))) + (ga w1)) + ((p_sprN gx 48) w1)))), (6, .int v5), (7, .int v6), (8, .int v7), (11, .int ((((p_rot v1 (nI 2)) ^^^ (p_rot v1 (nI 13))) ^^^ (p_rot v1 (nI 22))) + (((v1 &&& v2) ^^^ (v1 &&& v3)) ^^^ (v2 &&& v3)))), (10, .int ((((v8 + (((p_rot v5 (nI 6)) ^^^ (p_rot v5 (nI 11))) ^^^ (p_rot v5 (nI 25)))) + ((v5 &&& v6) ^^^ ((v5 ^^^ (-1)) &&& v7))) + (ga w1)) + ((p_sprN gx 48) w1))), (0, .ref (b 0)), (9, .int (nI w1))]) hx hb dX3_mix_291 rfl hl (by decide) rfl (fun ls hl => ?_)
          refine lv_iinc (v := nI (w1 + 1)) (lv' := [(9, .int (nI (w1 + 1))), (1, .int (((((v8 + (((p_rot v5 (nI 6)) ^^^ (p_rot v5 (nI 11))) ^^^ (p_rot v5 (nI 25)))) + ((v5 &&& v6) ^^^ ((v5 ^^^ (-1)) &&& v7))) + (ga w1)) + ((p_sprN gx 48) w1)) + ((((p_rot v1 (nI 2)) ^^^ (p_rot v1 (nI 13))) ^^^ (p_rot v1 (nI 22))) + (((v1 &&& v2) ^^^ (v1 &&& v3)) ^^^ (v2 &&& v3))))), (2, .int v1), (3, .int v2), (4, .int v3), (5, .int (v4 + ((((v8 + (((p_rot v5 (nI 6)) ^^^ (p_rot v5 (nI 11))) ^^^ (p_rot v5 (nI 25)))) + ((v5 &&& v6) ^^^ ((v5 ^^^ (-1)) &&& v7))) + (ga w1)) + ((p_sprN gx 48) w1)))), (6, .int v5), (7, .int v6), (8, .int v7), (11, .int ((((p_rot v1 (nI 2)) ^^^ (p_rot v1 (nI 13))) ^^^ (p_rot v1 (nI 22))) + (((v1 &&& v2) ^^^ (v1 &&& v3)) ^^^ (v2 &&& v3)))), (10, .int ((((v8 + (((p_rot v5 (nI 6)) ^^^ (p_rot v5 (nI 11))) ^^^ (p_rot v5 (nI 25)))) + ((v5 &&& v6) ^^^ ((v5 ^^^ (-1)) &&& v7))) + (ga w1)) + ((p_sprN gx 48) w1))), (0, .ref (b 0))]) hx hb dX3_mix_292 hl (k := 11) rfl (inc_N w1 1) (by decide) rfl (fun ls hl => ?_)
          refine lv_goto (tgt := 162) hx hb dX3_mix_295 (by decide) ?_
          exact ih2 (w1 + 1) (((((v8 + (((p_rot v5 (nI 6)) ^^^ (p_rot v5 (nI 11))) ^^^ (p_rot v5 (nI 25)))) + ((v5 &&& v6) ^^^ ((v5 ^^^ (-1)) &&& v7))) + (ga w1)) + ((p_sprN gx 48) w1)) + ((((p_rot v1 (nI 2)) ^^^ (p_rot v1 (nI 13))) ^^^ (p_rot v1 (nI 22))) + (((v1 &&& v2) ^^^ (v1 &&& v3)) ^^^ (v2 &&& v3)))) v1 v2 v3 (v4 + ((((v8 + (((p_rot v5 (nI 6)) ^^^ (p_rot v5 (nI 11))) ^^^ (p_rot v5 (nI 25)))) + ((v5 &&& v6) ^^^ ((v5 ^^^ (-1)) &&& v7))) + (ga w1)) + ((p_sprN gx 48) w1))) v5 v6 v7 (by omega) (by show _ = p_rnd (st_K w1) (p_w gx w1) (p_rs (p_w gx) (p_tup gh) w1); rw [← hga w1 (by omega), ← hst]; rfl) (by omega) _ _ _ hP hD hS (lv_sub hl [11, 1, 2, 3, 4, 5, 6, 7, 8, 0] rfl)
    · refine lv_aload_n hx hb dX3_mix_9 rfl (lv_at hl 0 rfl) ?_
      refine va_get (D := G.1) (ci := 3) (v := .ref (b 10)) (C := RX3) (T := TX3) (N := 19) hx hb hts hiX3 hown hK hP 0 rfl rfl 17 (by decide) lk42 (fun _ h9 => h9) rfl dX3_mix_10 ?_
      refine lv_iload_n hx hb dX3_mix_13 rfl (lv_at hl 1 rfl) ?_
      refine lv_bipush (v := nI 15) hx hb dX3_mix_14 (by decide) ?_
      refine su_N hx hb (16 + s1) 15 (by omega) dX3_mix_16 ?_
      refine rd_i hx hb hK hP 10 rfl ((16 + s1) - 15) (by omega) (by omega) dX3_mix_17 ?_
      refine lv_istore_n (lv' := [(2, .int ((p_sprN gx s1) ((16 + s1) - 15))), (0, .ref (b 0)), (1, .int (nI (16 + s1)))]) hx hb dX3_mix_18 rfl hl (by decide) rfl (fun ls hl => ?_)
      refine lv_aload_n hx hb dX3_mix_19 rfl (lv_at hl 1 rfl) ?_
      refine va_get (D := G.1) (ci := 3) (v := .ref (b 10)) (C := RX3) (T := TX3) (N := 19) hx hb hts hiX3 hown hK hP 0 rfl rfl 17 (by decide) lk42 (fun _ h9 => h9) rfl dX3_mix_20 ?_
      refine lv_iload_n hx hb dX3_mix_23 rfl (lv_at hl 2 rfl) ?_
      refine lv_iconst (v := nI 2) hx hb dX3_mix_24 (by decide) ?_
      refine su_N hx hb (16 + s1) 2 (by omega) dX3_mix_25 ?_
      refine rd_i hx hb hK hP 10 rfl ((16 + s1) - 2) (by omega) (by omega) dX3_mix_26 ?_
      refine lv_istore_n (lv' := [(3, .int ((p_sprN gx s1) ((16 + s1) - 2))), (2, .int ((p_sprN gx s1) ((16 + s1) - 15))), (0, .ref (b 0)), (1, .int (nI (16 + s1)))]) hx hb dX3_mix_27 rfl hl (by decide) rfl (fun ls hl => ?_)
      refine lv_aload_n hx hb dX3_mix_28 rfl (lv_at hl 2 rfl) ?_
      refine va_get (D := G.1) (ci := 3) (v := .ref (b 10)) (C := RX3) (T := TX3) (N := 19) hx hb hts hiX3 hown hK hP 0 rfl rfl 17 (by decide) lk42 (fun _ h9 => h9) rfl dX3_mix_29 ?_
      refine lv_iload_n hx hb dX3_mix_32 rfl (lv_at hl 3 rfl) ?_
      refine lv_aload_n hx hb dX3_mix_33 rfl (lv_at hl 2 rfl) ?_
      refine va_get (D := G.1) (ci := 3) (v := .ref (b 10)) (C := RX3) (T := TX3) (N := 19) hx hb hts hiX3 hown hK hP 0 rfl rfl 17 (by decide) lk42 (fun _ h9 => h9) rfl dX3_mix_34 ?_
      refine lv_iload_n hx hb dX3_mix_37 rfl (lv_at hl 3 rfl) ?_
      refine lv_bipush (v := nI 16) hx hb dX3_mix_38 (by decide) ?_
      refine su_N hx hb (16 + s1) 16 (by omega) dX3_mix_40 ?_
      refine rd_i hx hb hK hP 10 rfl ((16 + s1) - 16) (by omega) (by omega) dX3_mix_41 ?_
      refine lv_iload_n hx hb dX3_mix_42 rfl (lv_at hl 1 rfl) ?_
      refine lv_bipush (v := nI 7) hx hb dX3_mix_43 (by decide) ?_
      refine call_Si (wr := ([(b 0, .inr (3, [.ref (b 1), .int (nI n), .ref (b 2), .ref (b 3), .int (nI k), .int (nI z), .int (nI t), .int kn, .ref (b 4), .int (nI pl), .int (nI lf), .ref (b 5), .int (nI pn), .ref (b 6), .ref (b 7), .ref (b 8), .ref (b 9), .ref (b 10), .ref (b 11)])), (b 1, .inl (G.2.2.1, 2040, .inl gc)), (b 2, .inl (G.2.2.1, 8, .inl gd)), (b 3, .inl (G.2.2.1, 8, .inl gw)), (b 4, .inl (G.2.2.2, 1024, .inl gf)), (b 5, .inl (G.2.2.1, 1600, .inl gp)), (b 6, .inl (G.2.2.1, 64, .inl ga)), (b 7, .inl (G.2.2.1, 8, .inl gb)), (b 8, .inl (G.2.2.1, 8, .inl gh)), (b 9, .inl (G.2.2.1, 8, .inl gg)), (b 10, .inl (G.2.2.1, 64, .inl (p_sprN gx s1))), (b 11, .inl (G.2.2.1, 26, .inl ge))] : va_W)) [.int ((p_sprN gx s1) ((16 + s1) - 15)), .int (nI 7)] [.int ((p_sprN gx s1) ((16 + s1) - 16)), .int (nI (16 + s1)), .ref (b 10)] ⟨hx, hb, hml, hown, hts⟩ hK hX hA hP hD hS (m_turned l G _ ((p_sprN gx s1) ((16 + s1) - 15)) (nI 7)) (va_cwS 2 hts gX3_mix_X3_turned rfl rfl rfl (by decide +kernel) ⟨Nat.le_of_ble_eq_true rfl, Nat.le_of_ble_eq_true rfl⟩) [] [0, 1, 2, 3, 4, 5, 6, 7, 8, 9, 10, 11] rfl rfl (by decide) (by decide) (by decide) rfl hl.1 (Nat.le_of_ble_eq_true rfl) dX3_mix_45 ⟨Nat.zero_le _, Nat.zero_le _⟩ (fun r_9 u H locs hw hP hD hS => ?_)
      obtain rfl := hw
      have hP : va_P G.1 vwCl (wMd G b gc gd gw gf gp ga gb gh gg (p_sprN gx s1) ge n k z t kn pl lf pn) H := hP
      have hD : va_D A (wMd G b gc gd gw gf gp ga gb gh gg (p_sprN gx s1) ge n k z t kn pl lf pn) := hD
      refine lv_iload_n hx hb dX3_mix_48 rfl (lv_at hl 1 rfl) ?_
      refine lv_bipush (v := nI 18) hx hb dX3_mix_49 (by decide) ?_
      refine call_Si (wr := ([(b 0, .inr (3, [.ref (b 1), .int (nI n), .ref (b 2), .ref (b 3), .int (nI k), .int (nI z), .int (nI t), .int kn, .ref (b 4), .int (nI pl), .int (nI lf), .ref (b 5), .int (nI pn), .ref (b 6), .ref (b 7), .ref (b 8), .ref (b 9), .ref (b 10), .ref (b 11)])), (b 1, .inl (G.2.2.1, 2040, .inl gc)), (b 2, .inl (G.2.2.1, 8, .inl gd)), (b 3, .inl (G.2.2.1, 8, .inl gw)), (b 4, .inl (G.2.2.2, 1024, .inl gf)), (b 5, .inl (G.2.2.1, 1600, .inl gp)), (b 6, .inl (G.2.2.1, 64, .inl ga)), (b 7, .inl (G.2.2.1, 8, .inl gb)), (b 8, .inl (G.2.2.1, 8, .inl gh)), (b 9, .inl (G.2.2.1, 8, .inl gg)), (b 10, .inl (G.2.2.1, 64, .inl (p_sprN gx s1))), (b 11, .inl (G.2.2.1, 26, .inl ge))] : va_W)) [.int ((p_sprN gx s1) ((16 + s1) - 15)), .int (nI 18)] [.int (p_rot ((p_sprN gx s1) ((16 + s1) - 15)) (nI 7)), .int ((p_sprN gx s1) ((16 + s1) - 16)), .int (nI (16 + s1)), .ref (b 10)] ⟨hx, hb, hml, hown, hts⟩ hK hX hA hP hD hS (m_turned l G _ ((p_sprN gx s1) ((16 + s1) - 15)) (nI 18)) (va_cwS 2 hts gX3_mix_X3_turned rfl rfl rfl (by decide +kernel) ⟨Nat.le_of_ble_eq_true rfl, Nat.le_of_ble_eq_true rfl⟩) [] [0, 1, 2, 3, 4, 5, 6, 7, 8, 9, 10, 11] rfl rfl (by decide) (by decide) (by decide) rfl hl.1 (Nat.le_of_ble_eq_true rfl) dX3_mix_51 ⟨Nat.zero_le _, Nat.zero_le _⟩ (fun r_10 u H locs hw hP hD hS => ?_)
      obtain rfl := hw
      have hP : va_P G.1 vwCl (wMd G b gc gd gw gf gp ga gb gh gg (p_sprN gx s1) ge n k z t kn pl lf pn) H := hP
      have hD : va_D A (wMd G b gc gd gw gf gp ga gb gh gg (p_sprN gx s1) ge n k z t kn pl lf pn) := hD
      refine lv_ixor hx hb dX3_mix_54 ?_
      refine lv_iload_n hx hb dX3_mix_55 rfl (lv_at hl 1 rfl) ?_
      refine lv_iconst (v := nI 3) hx hb dX3_mix_56 (by decide) ?_
      refine lv_iushr (v := (p_ush ((p_sprN gx s1) ((16 + s1) - 15)) (nI 3))) hx hb dX3_mix_57 rfl ?_
      refine lv_ixor hx hb dX3_mix_58 ?_
      refine lv_iadd hx hb dX3_mix_59 ?_
      refine lv_aload_n hx hb dX3_mix_60 rfl (lv_at hl 2 rfl) ?_
      refine va_get (D := G.1) (ci := 3) (v := .ref (b 10)) (C := RX3) (T := TX3) (N := 19) hx hb hts hiX3 hown hK hP 0 rfl rfl 17 (by decide) lk42 (fun _ h9 => h9) rfl dX3_mix_61 ?_
      refine lv_iload_n hx hb dX3_mix_64 rfl (lv_at hl 3 rfl) ?_
      refine lv_bipush (v := nI 7) hx hb dX3_mix_65 (by decide) ?_
      refine su_N hx hb (16 + s1) 7 (by omega) dX3_mix_67 ?_
      refine rd_i hx hb hK hP 10 rfl ((16 + s1) - 7) (by omega) (by omega) dX3_mix_68 ?_
      refine lv_iadd hx hb dX3_mix_69 ?_
      refine lv_iload_n hx hb dX3_mix_70 rfl (lv_at hl 0 rfl) ?_
      refine lv_bipush (v := nI 17) hx hb dX3_mix_71 (by decide) ?_
      refine call_Si (wr := ([(b 0, .inr (3, [.ref (b 1), .int (nI n), .ref (b 2), .ref (b 3), .int (nI k), .int (nI z), .int (nI t), .int kn, .ref (b 4), .int (nI pl), .int (nI lf), .ref (b 5), .int (nI pn), .ref (b 6), .ref (b 7), .ref (b 8), .ref (b 9), .ref (b 10), .ref (b 11)])), (b 1, .inl (G.2.2.1, 2040, .inl gc)), (b 2, .inl (G.2.2.1, 8, .inl gd)), (b 3, .inl (G.2.2.1, 8, .inl gw)), (b 4, .inl (G.2.2.2, 1024, .inl gf)), (b 5, .inl (G.2.2.1, 1600, .inl gp)), (b 6, .inl (G.2.2.1, 64, .inl ga)), (b 7, .inl (G.2.2.1, 8, .inl gb)), (b 8, .inl (G.2.2.1, 8, .inl gh)), (b 9, .inl (G.2.2.1, 8, .inl gg)), (b 10, .inl (G.2.2.1, 64, .inl (p_sprN gx s1))), (b 11, .inl (G.2.2.1, 26, .inl ge))] : va_W)) [.int ((p_sprN gx s1) ((16 + s1) - 2)), .int (nI 17)] [.int ((((p_sprN gx s1) ((16 + s1) - 16)) + (((p_rot ((p_sprN gx s1) ((16 + s1) - 15)) (nI 7)) ^^^ (p_rot ((p_sprN gx s1) ((16 + s1) - 15)) (nI 18))) ^^^ (p_ush ((p_sprN gx s1) ((16 + s1) - 15)) (nI 3)))) + ((p_sprN gx s1) ((16 + s1) - 7))), .int (nI (16 + s1)), .ref (b 10)] ⟨hx, hb, hml, hown, hts⟩ hK hX hA hP hD hS (m_turned l G _ ((p_sprN gx s1) ((16 + s1) - 2)) (nI 17)) (va_cwS 2 hts gX3_mix_X3_turned rfl rfl rfl (by decide +kernel) ⟨Nat.le_of_ble_eq_true rfl, Nat.le_of_ble_eq_true rfl⟩) [] [0, 1, 2, 3, 4, 5, 6, 7, 8, 9, 10, 11] rfl rfl (by decide) (by decide) (by decide) rfl hl.1 (Nat.le_of_ble_eq_true rfl) dX3_mix_73 ⟨Nat.zero_le _, Nat.zero_le _⟩ (fun r_11 u H locs hw hP hD hS => ?_)
      obtain rfl := hw
      have hP : va_P G.1 vwCl (wMd G b gc gd gw gf gp ga gb gh gg (p_sprN gx s1) ge n k z t kn pl lf pn) H := hP
      have hD : va_D A (wMd G b gc gd gw gf gp ga gb gh gg (p_sprN gx s1) ge n k z t kn pl lf pn) := hD
      refine lv_iload_n hx hb dX3_mix_76 rfl (lv_at hl 0 rfl) ?_
      refine lv_bipush (v := nI 19) hx hb dX3_mix_77 (by decide) ?_
      refine call_Si (wr := ([(b 0, .inr (3, [.ref (b 1), .int (nI n), .ref (b 2), .ref (b 3), .int (nI k), .int (nI z), .int (nI t), .int kn, .ref (b 4), .int (nI pl), .int (nI lf), .ref (b 5), .int (nI pn), .ref (b 6), .ref (b 7), .ref (b 8), .ref (b 9), .ref (b 10), .ref (b 11)])), (b 1, .inl (G.2.2.1, 2040, .inl gc)), (b 2, .inl (G.2.2.1, 8, .inl gd)), (b 3, .inl (G.2.2.1, 8, .inl gw)), (b 4, .inl (G.2.2.2, 1024, .inl gf)), (b 5, .inl (G.2.2.1, 1600, .inl gp)), (b 6, .inl (G.2.2.1, 64, .inl ga)), (b 7, .inl (G.2.2.1, 8, .inl gb)), (b 8, .inl (G.2.2.1, 8, .inl gh)), (b 9, .inl (G.2.2.1, 8, .inl gg)), (b 10, .inl (G.2.2.1, 64, .inl (p_sprN gx s1))), (b 11, .inl (G.2.2.1, 26, .inl ge))] : va_W)) [.int ((p_sprN gx s1) ((16 + s1) - 2)), .int (nI 19)] [.int (p_rot ((p_sprN gx s1) ((16 + s1) - 2)) (nI 17)), .int ((((p_sprN gx s1) ((16 + s1) - 16)) + (((p_rot ((p_sprN gx s1) ((16 + s1) - 15)) (nI 7)) ^^^ (p_rot ((p_sprN gx s1) ((16 + s1) - 15)) (nI 18))) ^^^ (p_ush ((p_sprN gx s1) ((16 + s1) - 15)) (nI 3)))) + ((p_sprN gx s1) ((16 + s1) - 7))), .int (nI (16 + s1)), .ref (b 10)] ⟨hx, hb, hml, hown, hts⟩ hK hX hA hP hD hS (m_turned l G _ ((p_sprN gx s1) ((16 + s1) - 2)) (nI 19)) (va_cwS 2 hts gX3_mix_X3_turned rfl rfl rfl (by decide +kernel) ⟨Nat.le_of_ble_eq_true rfl, Nat.le_of_ble_eq_true rfl⟩) [] [0, 1, 2, 3, 4, 5, 6, 7, 8, 9, 10, 11] rfl rfl (by decide) (by decide) (by decide) rfl hl.1 (Nat.le_of_ble_eq_true rfl) dX3_mix_79 ⟨Nat.zero_le _, Nat.zero_le _⟩ (fun r_12 u H locs hw hP hD hS => ?_)
      obtain rfl := hw
      have hP : va_P G.1 vwCl (wMd G b gc gd gw gf gp ga gb gh gg (p_sprN gx s1) ge n k z t kn pl lf pn) H := hP
      have hD : va_D A (wMd G b gc gd gw gf gp ga gb gh gg (p_sprN gx s1) ge n k z t kn pl lf pn) := hD
      refine lv_ixor hx hb dX3_mix_82 ?_
      refine lv_iload_n hx hb dX3_mix_83 rfl (lv_at hl 0 rfl) ?_
      refine lv_bipush (v := nI 10) hx hb dX3_mix_84 (by decide) ?_
      refine lv_iushr (v := (p_ush ((p_sprN gx s1) ((16 + s1) - 2)) (nI 10))) hx hb dX3_mix_86 rfl ?_
      refine lv_ixor hx hb dX3_mix_87 ?_
      refine lv_iadd hx hb dX3_mix_88 ?_
      refine wr_i hx hb hK hP hD hS 10 rfl (16 + s1) (by omega) (by omega) dX3_mix_89 (fun H locs hP hD hS => ?_)
      have hP : va_P G.1 vwCl (wMd G b gc gd gw gf gp ga gb gh gg (upd (p_sprN gx s1) (16 + s1) (((((p_sprN gx s1) ((16 + s1) - 16)) + (((p_rot ((p_sprN gx s1) ((16 + s1) - 15)) (nI 7)) ^^^ (p_rot ((p_sprN gx s1) ((16 + s1) - 15)) (nI 18))) ^^^ (p_ush ((p_sprN gx s1) ((16 + s1) - 15)) (nI 3)))) + ((p_sprN gx s1) ((16 + s1) - 7))) + (((p_rot ((p_sprN gx s1) ((16 + s1) - 2)) (nI 17)) ^^^ (p_rot ((p_sprN gx s1) ((16 + s1) - 2)) (nI 19))) ^^^ (p_ush ((p_sprN gx s1) ((16 + s1) - 2)) (nI 10))))) ge n k z t kn pl lf pn) H := hP
      have hD : va_D A (wMd G b gc gd gw gf gp ga gb gh gg (upd (p_sprN gx s1) (16 + s1) (((((p_sprN gx s1) ((16 + s1) - 16)) + (((p_rot ((p_sprN gx s1) ((16 + s1) - 15)) (nI 7)) ^^^ (p_rot ((p_sprN gx s1) ((16 + s1) - 15)) (nI 18))) ^^^ (p_ush ((p_sprN gx s1) ((16 + s1) - 15)) (nI 3)))) + ((p_sprN gx s1) ((16 + s1) - 7))) + (((p_rot ((p_sprN gx s1) ((16 + s1) - 2)) (nI 17)) ^^^ (p_rot ((p_sprN gx s1) ((16 + s1) - 2)) (nI 19))) ^^^ (p_ush ((p_sprN gx s1) ((16 + s1) - 2)) (nI 10))))) ge n k z t kn pl lf pn) := hD
      have hP : va_P G.1 vwCl (wMd G b gc gd gw gf gp ga gb gh gg (p_sprN gx (s1 + 1)) ge n k z t kn pl lf pn) H := hP
      have hD : va_D A (wMd G b gc gd gw gf gp ga gb gh gg (p_sprN gx (s1 + 1)) ge n k z t kn pl lf pn) := hD
      refine lv_iinc (v := nI (16 + s1 + 1)) (lv' := [(1, .int (nI (16 + s1 + 1))), (3, .int ((p_sprN gx s1) ((16 + s1) - 2))), (2, .int ((p_sprN gx s1) ((16 + s1) - 15))), (0, .ref (b 0))]) hx hb dX3_mix_90 hl (k := 3) rfl (inc_N (16 + s1) 1) (by decide) rfl (fun ls hl => ?_)
      refine lv_goto (tgt := 3) hx hb dX3_mix_93 (by decide) ?_
      exact ih1 (s1 + 1) (by omega) (by omega) _ _ _ hP hD hS (lv_sub hl [3, 0] rfl)
set_option maxHeartbeats 4000000 in
set_option maxRecDepth 100000 in
theorem m_mixFirst (l : Launch) (G : gG) (sz : Nat) (b : Nat → Nat) (gc gd gw gf gp ga gb gh gg gx ge : Nat → Int32) (n k z t : Nat) (kn : Int32) (pl lf pn : Nat)  (hn : n ≤ 60) (hk : k ≤ 8) (hz : z ≤ 20) (ht : t ≤ 100000) (hpl : pl ≤ 60) (hlf : lf ≤ 6) (hpn : pn ≤ 1560) (hga : ∀ j, j < 64 → ga j = st_K j) (hgb : ∀ j, j < 8 → gb j = st_S j)  : MetV l yX3_mixFirst wsX3_mixFirst ({ frames := 2, cells := 0, slots := 0, locals := 52 } : Room) [.ref (b 0)] G (wMd G b gc gd gw gf gp ga gb gh gg gx ge n k z t kn pl lf pn) sz (fun u : (Nat → Int32) × (Nat → Int32) × (Nat → Int32) => wMd G b gc gd gw gf gp ga gb u.1 u.2.1 u.2.2 ge n k z t kn pl lf pn) (fun u => (fun _ g2 _ => ∀ j, j < 8 → g2 j = p_h1 ge 0 j) u.1 u.2.1 u.2.2) := by
  refine ent_v _ cX3_mixFirst 2 RX3 (by decide) rfl rfl (Nat.le_of_ble_eq_true rfl) ?_
  intro p e s m args below meth c A Q ls hx hb hml hts hown hA hK hX ret hl hP hD hS
  have hl : lv_has ls 2 [(0, .ref (b 0))] := hl
  have lk33 := hts (.fieldLink RX3 33 "MinedLedgerModel" "begun" "[I") (by decide +kernel)
  have lk36 := hts (.fieldLink RX3 36 "MinedLedgerModel" "h" "[I") (by decide +kernel)
  have lk39 := hts (.fieldLink RX3 39 "MinedLedgerModel" "half" "[I") (by decide +kernel)
  have lk42 := hts (.fieldLink RX3 42 "MinedLedgerModel" "w" "[I") (by decide +kernel)
  have lk45 := hts (.fieldLink RX3 45 "MinedLedgerModel" "entry" "[I") (by decide +kernel)
  have hiX3 : ∀ w ∈ wsX30, w ∈ wsX3_mixFirst := by decide +kernel
  refine lv_iconst (v := nI 0) hx hb dX3_mixFirst_0 (by decide) ?_
  refine lv_istore_n (lv' := [(1, .int (nI 0)), (0, .ref (b 0))]) hx hb dX3_mixFirst_1 rfl hl (by decide) rfl (fun ls hl => ?_)
  have hP : va_P G.1 vwCl (wMd G b gc gd gw gf gp ga gb (va_cpy gb gh 0 0 0) gg gx ge n k z t kn pl lf pn) s.heap := by rw [cpy_n0]; exact hP
  have hD : va_D A (wMd G b gc gd gw gf gp ga gb (va_cpy gb gh 0 0 0) gg gx ge n k z t kn pl lf pn) := by rw [cpy_n0]; exact hD
  suffices hloop1 : ∀ (fu1 : Nat) (i1 : Nat), (i1 ≤ 8) → 8 - i1 < fu1 → ∀ (H : Heap) (locs : List Loc) (ls : Array Slot), va_P G.1 vwCl (wMd G b gc gd gw gf gp ga gb (va_cpy gb gh 0 0 i1) gg gx ge n k z t kn pl lf pn) H → va_D A (wMd G b gc gd gw gf gp ga gb (va_cpy gb gh 0 0 i1) gg gx ge n k z t kn pl lf pn) → va_S A s.heap H locs → lv_has ls 2 [(0, .ref (b 0)), (1, .int (nI i1))] → W p l e ({ frames := 2, cells := 0, slots := 0, locals := 52 } : Room) s m args below meth c H locs 0 0 Q (F0 m 2 ls []) from hloop1 _ 0 (Nat.zero_le _) (Nat.lt_succ_self _) _ _ _ hP hD hS (lv_sub hl [1, 0] rfl)
  clear hP hD hS hl
  intro fu1
  induction fu1 with
  | zero => intro i1 hi1 hfu; exact absurd hfu (Nat.not_lt_zero _)
  | succ fu1 ih1 =>
    intro i1 hi1 hfu1 H locs ls hP hD hS hl
    refine lv_iload_n hx hb dX3_mixFirst_2 rfl (lv_at hl 1 rfl) ?_
    refine lv_bipush (v := nI 8) hx hb dX3_mixFirst_3 (by decide) ?_
    refine cmp_ge hx hb i1 8 26 (by omega) (by omega) dX3_mixFirst_5 (by decide) (fun c5 => ?_) (fun c5 => ?_)
    · have e26 : i1 = 8 := by omega
      subst e26
      refine lv_iconst (v := nI 0) hx hb dX3_mixFirst_26 (by decide) ?_
      refine lv_istore_n (lv' := [(1, .int (nI 0)), (0, .ref (b 0))]) hx hb dX3_mixFirst_27 rfl hl (by decide) rfl (fun ls hl => ?_)
      have hP : va_P G.1 vwCl (wMd G b gc gd gw gf gp ga gb (va_cpy gb gh 0 0 8) gg (va_cpy ge gx 0 0 0) ge n k z t kn pl lf pn) H := by rw [cpy_n0]; exact hP
      have hD : va_D A (wMd G b gc gd gw gf gp ga gb (va_cpy gb gh 0 0 8) gg (va_cpy ge gx 0 0 0) ge n k z t kn pl lf pn) := by rw [cpy_n0]; exact hD
      suffices hloop2 : ∀ (fu2 : Nat) (i2 : Nat), (i2 ≤ 16) → 16 - i2 < fu2 → ∀ (H : Heap) (locs : List Loc) (ls : Array Slot), va_P G.1 vwCl (wMd G b gc gd gw gf gp ga gb (va_cpy gb gh 0 0 8) gg (va_cpy ge gx 0 0 i2) ge n k z t kn pl lf pn) H → va_D A (wMd G b gc gd gw gf gp ga gb (va_cpy gb gh 0 0 8) gg (va_cpy ge gx 0 0 i2) ge n k z t kn pl lf pn) → va_S A s.heap H locs → lv_has ls 2 [(0, .ref (b 0)), (1, .int (nI i2))] → W p l e ({ frames := 2, cells := 0, slots := 0, locals := 52 } : Room) s m args below meth c H locs 0 0 Q (F0 m 28 ls []) from hloop2 _ 0 (Nat.zero_le _) (Nat.lt_succ_self _) _ _ _ hP hD hS (lv_sub hl [1, 0] rfl)
      clear hP hD hS hl
      intro fu2
      induction fu2 with
      | zero => intro i2 hi2 hfu; exact absurd hfu (Nat.not_lt_zero _)
      | succ fu2 ih2 =>
        intro i2 hi2 hfu2 H locs ls hP hD hS hl
        refine lv_iload_n hx hb dX3_mixFirst_28 rfl (lv_at hl 1 rfl) ?_
        refine lv_bipush (v := nI 16) hx hb dX3_mixFirst_29 (by decide) ?_
        refine cmp_ge hx hb i2 16 52 (by omega) (by omega) dX3_mixFirst_31 (by decide) (fun c31 => ?_) (fun c31 => ?_)
        · have e52 : i2 = 16 := by omega
          subst e52
          refine lv_aload_n hx hb dX3_mixFirst_52 rfl (lv_at hl 0 rfl) ?_
          refine call_Vv (wr := ([] : va_W)) [] [] ⟨hx, hb, hml, hown, hts⟩ hK hX hA hP hD hS (m_mix l G _ b gc gd gw gf gp ga gb (va_cpy gb gh 0 0 8) gg (va_cpy ge gx 0 0 16) ge n k z t kn pl lf pn  (by omega) (by omega) (by omega) (by omega) (by omega) (by omega) (by omega) hga hgb) (cwV 0 hts gX3_mixFirst_X3_mix rfl rfl rfl (by decide +kernel) ⟨Nat.le_of_ble_eq_true rfl, Nat.le_of_ble_eq_true rfl⟩) 3 0 rfl rfl rfl [0, 1, 2, 3, 4, 5, 6, 7, 8, 9, 10, 11] [] rfl rfl (by decide) (by decide) (by decide) rfl hl.1 (Nat.le_of_ble_eq_true rfl) dX3_mixFirst_53 ⟨Nat.zero_le _, Nat.zero_le _⟩ (fun u H locs hw hP hD hS => ?_)
          have hP : va_P G.1 vwCl (wMd G b gc gd gw gf gp ga gb (p_mix (va_cpy gb gh 0 0 8) (va_cpy ge gx 0 0 16)) gg (p_w (va_cpy ge gx 0 0 16)) ge n k z t kn pl lf pn) H := hP
          have hD : va_D A (wMd G b gc gd gw gf gp ga gb (p_mix (va_cpy gb gh 0 0 8) (va_cpy ge gx 0 0 16)) gg (p_w (va_cpy ge gx 0 0 16)) ge n k z t kn pl lf pn) := hD
          refine lv_iconst (v := nI 0) hx hb dX3_mixFirst_56 (by decide) ?_
          refine lv_istore_n (lv' := [(1, .int (nI 0)), (0, .ref (b 0))]) hx hb dX3_mixFirst_57 rfl hl (by decide) rfl (fun ls hl => ?_)
          have hP : va_P G.1 vwCl (wMd G b gc gd gw gf gp ga gb (p_mix (va_cpy gb gh 0 0 8) (va_cpy ge gx 0 0 16)) (va_cpy (p_mix (va_cpy gb gh 0 0 8) (va_cpy ge gx 0 0 16)) gg 0 0 0) (p_w (va_cpy ge gx 0 0 16)) ge n k z t kn pl lf pn) H := by rw [cpy_n0]; exact hP
          have hD : va_D A (wMd G b gc gd gw gf gp ga gb (p_mix (va_cpy gb gh 0 0 8) (va_cpy ge gx 0 0 16)) (va_cpy (p_mix (va_cpy gb gh 0 0 8) (va_cpy ge gx 0 0 16)) gg 0 0 0) (p_w (va_cpy ge gx 0 0 16)) ge n k z t kn pl lf pn) := by rw [cpy_n0]; exact hD
          suffices hloop3 : ∀ (fu3 : Nat) (i3 : Nat), (i3 ≤ 8) → 8 - i3 < fu3 → ∀ (H : Heap) (locs : List Loc) (ls : Array Slot), va_P G.1 vwCl (wMd G b gc gd gw gf gp ga gb (p_mix (va_cpy gb gh 0 0 8) (va_cpy ge gx 0 0 16)) (va_cpy (p_mix (va_cpy gb gh 0 0 8) (va_cpy ge gx 0 0 16)) gg 0 0 i3) (p_w (va_cpy ge gx 0 0 16)) ge n k z t kn pl lf pn) H → va_D A (wMd G b gc gd gw gf gp ga gb (p_mix (va_cpy gb gh 0 0 8) (va_cpy ge gx 0 0 16)) (va_cpy (p_mix (va_cpy gb gh 0 0 8) (va_cpy ge gx 0 0 16)) gg 0 0 i3) (p_w (va_cpy ge gx 0 0 16)) ge n k z t kn pl lf pn) → va_S A s.heap H locs → lv_has ls 2 [(0, .ref (b 0)), (1, .int (nI i3))] → W p l e ({ frames := 2, cells := 0, slots := 0, locals := 52 } : Room) s m args below meth c H locs 0 0 Q (F0 m 58 ls []) from hloop3 _ 0 (Nat.zero_le _) (Nat.lt_succ_self _) _ _ _ hP hD hS (lv_sub hl [1, 0] rfl)
          clear hP hD hS hl
          intro fu3
          induction fu3 with
          | zero => intro i3 hi3 hfu; exact absurd hfu (Nat.not_lt_zero _)
          | succ fu3 ih3 =>
            intro i3 hi3 hfu3 H locs ls hP hD hS hl
            refine lv_iload_n hx hb dX3_mixFirst_58 rfl (lv_at hl 1 rfl) ?_
            refine lv_bipush (v := nI 8) hx hb dX3_mixFirst_59 (by decide) ?_
            refine cmp_ge hx hb i3 8 82 (by omega) (by omega) dX3_mixFirst_61 (by decide) (fun c61 => ?_) (fun c61 => ?_)
            · have e82 : i3 = 8 := by omega
              subst e82
              exact ret 82 _ _ _ (p_mix (va_cpy gb gh 0 0 8) (va_cpy ge gx 0 0 16), va_cpy (p_mix (va_cpy gb gh 0 0 8) (va_cpy ge gx 0 0 16)) gg 0 0 8, p_w (va_cpy ge gx 0 0 16)) dX3_mixFirst_82 (fun j hj => (cpy_00 hj).trans (p_mix_congr (fun i h => (cpy_00 h).trans (hgb i h)) (fun i h => by rw [cpy_00 h, Nat.zero_add]) j hj)) hP hD hS
            · refine lv_aload_n hx hb dX3_mixFirst_64 rfl (lv_at hl 0 rfl) ?_
              refine va_get (D := G.1) (ci := 3) (v := .ref (b 9)) (C := RX3) (T := TX3) (N := 19) hx hb hts hiX3 hown hK hP 0 rfl rfl 16 (by decide) lk39 (fun _ h9 => h9) rfl dX3_mixFirst_65 ?_
              refine lv_iload_n hx hb dX3_mixFirst_68 rfl (lv_at hl 1 rfl) ?_
              refine lv_aload_n hx hb dX3_mixFirst_69 rfl (lv_at hl 0 rfl) ?_
              refine va_get (D := G.1) (ci := 3) (v := .ref (b 8)) (C := RX3) (T := TX3) (N := 19) hx hb hts hiX3 hown hK hP 0 rfl rfl 15 (by decide) lk36 (fun _ h9 => h9) rfl dX3_mixFirst_70 ?_
              refine lv_iload_n hx hb dX3_mixFirst_73 rfl (lv_at hl 1 rfl) ?_
              refine rd_i hx hb hK hP 8 rfl i3 (by omega) (by omega) dX3_mixFirst_74 ?_
              refine wr_i hx hb hK hP hD hS 9 rfl i3 (by omega) (by omega) dX3_mixFirst_75 (fun H locs hP hD hS => ?_)
              have hP : va_P G.1 vwCl (wMd G b gc gd gw gf gp ga gb (p_mix (va_cpy gb gh 0 0 8) (va_cpy ge gx 0 0 16)) (upd (va_cpy (p_mix (va_cpy gb gh 0 0 8) (va_cpy ge gx 0 0 16)) gg 0 0 i3) i3 ((p_mix (va_cpy gb gh 0 0 8) (va_cpy ge gx 0 0 16)) i3)) (p_w (va_cpy ge gx 0 0 16)) ge n k z t kn pl lf pn) H := hP
              have hD : va_D A (wMd G b gc gd gw gf gp ga gb (p_mix (va_cpy gb gh 0 0 8) (va_cpy ge gx 0 0 16)) (upd (va_cpy (p_mix (va_cpy gb gh 0 0 8) (va_cpy ge gx 0 0 16)) gg 0 0 i3) i3 ((p_mix (va_cpy gb gh 0 0 8) (va_cpy ge gx 0 0 16)) i3)) (p_w (va_cpy ge gx 0 0 16)) ge n k z t kn pl lf pn) := hD
              rw [cpy_s0] at hP hD
              refine lv_iinc (v := nI (i3 + 1)) (lv' := [(1, .int (nI (i3 + 1))), (0, .ref (b 0))]) hx hb dX3_mixFirst_76 hl (k := 1) rfl (inc_N i3 1) (by decide) rfl (fun ls hl => ?_)
              refine lv_goto (tgt := 58) hx hb dX3_mixFirst_79 (by decide) ?_
              exact ih3 (i3 + 1) (by omega) (by omega) _ _ _ hP hD hS (lv_sub hl [1, 0] rfl)
        · refine lv_aload_n hx hb dX3_mixFirst_34 rfl (lv_at hl 0 rfl) ?_
          refine va_get (D := G.1) (ci := 3) (v := .ref (b 10)) (C := RX3) (T := TX3) (N := 19) hx hb hts hiX3 hown hK hP 0 rfl rfl 17 (by decide) lk42 (fun _ h9 => h9) rfl dX3_mixFirst_35 ?_
          refine lv_iload_n hx hb dX3_mixFirst_38 rfl (lv_at hl 1 rfl) ?_
          refine lv_aload_n hx hb dX3_mixFirst_39 rfl (lv_at hl 0 rfl) ?_
          refine va_get (D := G.1) (ci := 3) (v := .ref (b 11)) (C := RX3) (T := TX3) (N := 19) hx hb hts hiX3 hown hK hP 0 rfl rfl 18 (by decide) lk45 (fun _ h9 => h9) rfl dX3_mixFirst_40 ?_
          refine lv_iload_n hx hb dX3_mixFirst_43 rfl (lv_at hl 1 rfl) ?_
          refine rd_i hx hb hK hP 11 rfl i2 (by omega) (by omega) dX3_mixFirst_44 ?_
          refine wr_i hx hb hK hP hD hS 10 rfl i2 (by omega) (by omega) dX3_mixFirst_45 (fun H locs hP hD hS => ?_)
          have hP : va_P G.1 vwCl (wMd G b gc gd gw gf gp ga gb (va_cpy gb gh 0 0 8) gg (upd (va_cpy ge gx 0 0 i2) i2 (ge i2)) ge n k z t kn pl lf pn) H := hP
          have hD : va_D A (wMd G b gc gd gw gf gp ga gb (va_cpy gb gh 0 0 8) gg (upd (va_cpy ge gx 0 0 i2) i2 (ge i2)) ge n k z t kn pl lf pn) := hD
          rw [cpy_s0] at hP hD
          refine lv_iinc (v := nI (i2 + 1)) (lv' := [(1, .int (nI (i2 + 1))), (0, .ref (b 0))]) hx hb dX3_mixFirst_46 hl (k := 1) rfl (inc_N i2 1) (by decide) rfl (fun ls hl => ?_)
          refine lv_goto (tgt := 28) hx hb dX3_mixFirst_49 (by decide) ?_
          exact ih2 (i2 + 1) (by omega) (by omega) _ _ _ hP hD hS (lv_sub hl [1, 0] rfl)
    · refine lv_aload_n hx hb dX3_mixFirst_8 rfl (lv_at hl 0 rfl) ?_
      refine va_get (D := G.1) (ci := 3) (v := .ref (b 8)) (C := RX3) (T := TX3) (N := 19) hx hb hts hiX3 hown hK hP 0 rfl rfl 15 (by decide) lk36 (fun _ h9 => h9) rfl dX3_mixFirst_9 ?_
      refine lv_iload_n hx hb dX3_mixFirst_12 rfl (lv_at hl 1 rfl) ?_
      refine lv_aload_n hx hb dX3_mixFirst_13 rfl (lv_at hl 0 rfl) ?_
      refine va_get (D := G.1) (ci := 3) (v := .ref (b 7)) (C := RX3) (T := TX3) (N := 19) hx hb hts hiX3 hown hK hP 0 rfl rfl 14 (by decide) lk33 (fun _ h9 => h9) rfl dX3_mixFirst_14 ?_
      refine lv_iload_n hx hb dX3_mixFirst_17 rfl (lv_at hl 1 rfl) ?_
      refine rd_i hx hb hK hP 7 rfl i1 (by omega) (by omega) dX3_mixFirst_18 ?_
      refine wr_i hx hb hK hP hD hS 8 rfl i1 (by omega) (by omega) dX3_mixFirst_19 (fun H locs hP hD hS => ?_)
      have hP : va_P G.1 vwCl (wMd G b gc gd gw gf gp ga gb (upd (va_cpy gb gh 0 0 i1) i1 (gb i1)) gg gx ge n k z t kn pl lf pn) H := hP
      have hD : va_D A (wMd G b gc gd gw gf gp ga gb (upd (va_cpy gb gh 0 0 i1) i1 (gb i1)) gg gx ge n k z t kn pl lf pn) := hD
      rw [cpy_s0] at hP hD
      refine lv_iinc (v := nI (i1 + 1)) (lv' := [(1, .int (nI (i1 + 1))), (0, .ref (b 0))]) hx hb dX3_mixFirst_20 hl (k := 1) rfl (inc_N i1 1) (by decide) rfl (fun ls hl => ?_)
      refine lv_goto (tgt := 2) hx hb dX3_mixFirst_23 (by decide) ?_
      exact ih1 (i1 + 1) (by omega) (by omega) _ _ _ hP hD hS (lv_sub hl [1, 0] rfl)
set_option maxHeartbeats 4000000 in
set_option maxRecDepth 100000 in
theorem m_mixSecond (l : Launch) (G : gG) (sz : Nat) (b : Nat → Nat) (gc gd gw gf gp ga gb gh gg gx ge : Nat → Int32) (n k z t : Nat) (kn : Int32) (pl lf pn : Nat)  (hn : n ≤ 60) (hk : k ≤ 8) (hz : z ≤ 20) (ht : t ≤ 100000) (hpl : pl ≤ 60) (hlf : lf ≤ 6) (hpn : pn ≤ 1560) (hga : ∀ j, j < 64 → ga j = st_K j) (hgb : ∀ j, j < 8 → gb j = st_S j)  : MetV l yX3_mixSecond wsX3_mixSecond ({ frames := 2, cells := 0, slots := 0, locals := 52 } : Room) [.ref (b 0)] G (wMd G b gc gd gw gf gp ga gb gh gg gx ge n k z t kn pl lf pn) sz (fun u : (Nat → Int32) × (Nat → Int32) => wMd G b gc gd gw gf gp ga gb u.1 gg u.2 ge n k z t kn pl lf pn) (fun u => (fun h2 _ => ∀ j, j < 8 → h2 j = p_mix gg (p_b2 ge 0) j) u.1 u.2) := by
  refine ent_v _ cX3_mixSecond 2 RX3 (by decide) rfl rfl (Nat.le_of_ble_eq_true rfl) ?_
  intro p e s m args below meth c A Q ls hx hb hml hts hown hA hK hX ret hl hP hD hS
  have hl : lv_has ls 2 [(0, .ref (b 0))] := hl
  have lk36 := hts (.fieldLink RX3 36 "MinedLedgerModel" "h" "[I") (by decide +kernel)
  have lk39 := hts (.fieldLink RX3 39 "MinedLedgerModel" "half" "[I") (by decide +kernel)
  have lk42 := hts (.fieldLink RX3 42 "MinedLedgerModel" "w" "[I") (by decide +kernel)
  have lk45 := hts (.fieldLink RX3 45 "MinedLedgerModel" "entry" "[I") (by decide +kernel)
  have hiX3 : ∀ w ∈ wsX30, w ∈ wsX3_mixSecond := by decide +kernel
  refine lv_iconst (v := nI 0) hx hb dX3_mixSecond_0 (by decide) ?_
  refine lv_istore_n (lv' := [(1, .int (nI 0)), (0, .ref (b 0))]) hx hb dX3_mixSecond_1 rfl hl (by decide) rfl (fun ls hl => ?_)
  have hP : va_P G.1 vwCl (wMd G b gc gd gw gf gp ga gb (va_cpy gg gh 0 0 0) gg gx ge n k z t kn pl lf pn) s.heap := by rw [cpy_n0]; exact hP
  have hD : va_D A (wMd G b gc gd gw gf gp ga gb (va_cpy gg gh 0 0 0) gg gx ge n k z t kn pl lf pn) := by rw [cpy_n0]; exact hD
  suffices hloop1 : ∀ (fu1 : Nat) (i1 : Nat), (i1 ≤ 8) → 8 - i1 < fu1 → ∀ (H : Heap) (locs : List Loc) (ls : Array Slot), va_P G.1 vwCl (wMd G b gc gd gw gf gp ga gb (va_cpy gg gh 0 0 i1) gg gx ge n k z t kn pl lf pn) H → va_D A (wMd G b gc gd gw gf gp ga gb (va_cpy gg gh 0 0 i1) gg gx ge n k z t kn pl lf pn) → va_S A s.heap H locs → lv_has ls 2 [(0, .ref (b 0)), (1, .int (nI i1))] → W p l e ({ frames := 2, cells := 0, slots := 0, locals := 52 } : Room) s m args below meth c H locs 0 0 Q (F0 m 2 ls []) from hloop1 _ 0 (Nat.zero_le _) (Nat.lt_succ_self _) _ _ _ hP hD hS (lv_sub hl [1, 0] rfl)
  clear hP hD hS hl
  intro fu1
  induction fu1 with
  | zero => intro i1 hi1 hfu; exact absurd hfu (Nat.not_lt_zero _)
  | succ fu1 ih1 =>
    intro i1 hi1 hfu1 H locs ls hP hD hS hl
    refine lv_iload_n hx hb dX3_mixSecond_2 rfl (lv_at hl 1 rfl) ?_
    refine lv_bipush (v := nI 8) hx hb dX3_mixSecond_3 (by decide) ?_
    refine cmp_ge hx hb i1 8 26 (by omega) (by omega) dX3_mixSecond_5 (by decide) (fun c5 => ?_) (fun c5 => ?_)
    · have e26 : i1 = 8 := by omega
      subst e26
      refine lv_iconst (v := nI 0) hx hb dX3_mixSecond_26 (by decide) ?_
      refine lv_istore_n (lv' := [(1, .int (nI 0)), (0, .ref (b 0))]) hx hb dX3_mixSecond_27 rfl hl (by decide) rfl (fun ls hl => ?_)
      have hP : va_P G.1 vwCl (wMd G b gc gd gw gf gp ga gb (va_cpy gg gh 0 0 8) gg (p_m2 ge gx 0) ge n k z t kn pl lf pn) H := by rw [m2_0]; exact hP
      have hD : va_D A (wMd G b gc gd gw gf gp ga gb (va_cpy gg gh 0 0 8) gg (p_m2 ge gx 0) ge n k z t kn pl lf pn) := by rw [m2_0]; exact hD
      suffices hloop2 : ∀ (fu2 : Nat) (i2 : Nat), (i2 ≤ 16) → 16 - i2 < fu2 → ∀ (H : Heap) (locs : List Loc) (ls : Array Slot), va_P G.1 vwCl (wMd G b gc gd gw gf gp ga gb (va_cpy gg gh 0 0 8) gg (p_m2 ge gx i2) ge n k z t kn pl lf pn) H → va_D A (wMd G b gc gd gw gf gp ga gb (va_cpy gg gh 0 0 8) gg (p_m2 ge gx i2) ge n k z t kn pl lf pn) → va_S A s.heap H locs → lv_has ls 2 [(0, .ref (b 0)), (1, .int (nI i2))] → W p l e ({ frames := 2, cells := 0, slots := 0, locals := 52 } : Room) s m args below meth c H locs 0 0 Q (F0 m 28 ls []) from hloop2 _ 0 (Nat.zero_le _) (Nat.lt_succ_self _) _ _ _ hP hD hS (lv_sub hl [1, 0] rfl)
      clear hP hD hS hl
      intro fu2
      induction fu2 with
      | zero => intro i2 hi2 hfu; exact absurd hfu (Nat.not_lt_zero _)
      | succ fu2 ih2 =>
        intro i2 hi2 hfu2 H locs ls hP hD hS hl
        refine lv_iload_n hx hb dX3_mixSecond_28 rfl (lv_at hl 1 rfl) ?_
        refine lv_bipush (v := nI 16) hx hb dX3_mixSecond_29 (by decide) ?_
        refine cmp_ge hx hb i2 16 65 (by omega) (by omega) dX3_mixSecond_31 (by decide) (fun c31 => ?_) (fun c31 => ?_)
        · have e65 : i2 = 16 := by omega
          subst e65
          refine lv_aload_n hx hb dX3_mixSecond_65 rfl (lv_at hl 0 rfl) ?_
          refine va_get (D := G.1) (ci := 3) (v := .ref (b 10)) (C := RX3) (T := TX3) (N := 19) hx hb hts hiX3 hown hK hP 0 rfl rfl 17 (by decide) lk42 (fun _ h9 => h9) rfl dX3_mixSecond_66 ?_
          refine lv_bipush (v := nI 10) hx hb dX3_mixSecond_69 (by decide) ?_
          refine lv_ldc (v := -2147483648) hx hb hown (hts (.constant RX3 136 (-2147483648)) (by decide +kernel)) dX3_mixSecond_71 ?_
          refine wr_i hx hb hK hP hD hS 10 rfl 10 (by omega) (by omega) dX3_mixSecond_73 (fun H locs hP hD hS => ?_)
          have hP : va_P G.1 vwCl (wMd G b gc gd gw gf gp ga gb (va_cpy gg gh 0 0 8) gg (upd (p_m2 ge gx 16) 10 (-2147483648)) ge n k z t kn pl lf pn) H := hP
          have hD : va_D A (wMd G b gc gd gw gf gp ga gb (va_cpy gg gh 0 0 8) gg (upd (p_m2 ge gx 16) 10 (-2147483648)) ge n k z t kn pl lf pn) := hD
          refine lv_aload_n hx hb dX3_mixSecond_74 rfl (lv_at hl 0 rfl) ?_
          refine va_get (D := G.1) (ci := 3) (v := .ref (b 10)) (C := RX3) (T := TX3) (N := 19) hx hb hts hiX3 hown hK hP 0 rfl rfl 17 (by decide) lk42 (fun _ h9 => h9) rfl dX3_mixSecond_75 ?_
          refine lv_bipush (v := nI 15) hx hb dX3_mixSecond_78 (by decide) ?_
          refine lv_sipush (v := nI 832) hx hb dX3_mixSecond_80 (by decide) ?_
          refine wr_i hx hb hK hP hD hS 10 rfl 15 (by omega) (by omega) dX3_mixSecond_83 (fun H locs hP hD hS => ?_)
          have hP : va_P G.1 vwCl (wMd G b gc gd gw gf gp ga gb (va_cpy gg gh 0 0 8) gg (upd (upd (p_m2 ge gx 16) 10 (-2147483648)) 15 (nI 832)) ge n k z t kn pl lf pn) H := hP
          have hD : va_D A (wMd G b gc gd gw gf gp ga gb (va_cpy gg gh 0 0 8) gg (upd (upd (p_m2 ge gx 16) 10 (-2147483648)) 15 (nI 832)) ge n k z t kn pl lf pn) := hD
          refine lv_aload_n hx hb dX3_mixSecond_84 rfl (lv_at hl 0 rfl) ?_
          refine call_Vv (wr := ([] : va_W)) [] [] ⟨hx, hb, hml, hown, hts⟩ hK hX hA hP hD hS (m_mix l G _ b gc gd gw gf gp ga gb (va_cpy gg gh 0 0 8) gg (upd (upd (p_m2 ge gx 16) 10 (-2147483648)) 15 (nI 832)) ge n k z t kn pl lf pn  (by omega) (by omega) (by omega) (by omega) (by omega) (by omega) (by omega) hga hgb) (cwV 0 hts gX3_mixSecond_X3_mix rfl rfl rfl (by decide +kernel) ⟨Nat.le_of_ble_eq_true rfl, Nat.le_of_ble_eq_true rfl⟩) 3 0 rfl rfl rfl [0, 1, 2, 3, 4, 5, 6, 7, 8, 9, 10, 11] [] rfl rfl (by decide) (by decide) (by decide) rfl hl.1 (Nat.le_of_ble_eq_true rfl) dX3_mixSecond_85 ⟨Nat.zero_le _, Nat.zero_le _⟩ (fun u H locs hw hP hD hS => ?_)
          have hP : va_P G.1 vwCl (wMd G b gc gd gw gf gp ga gb (p_mix (va_cpy gg gh 0 0 8) (upd (upd (p_m2 ge gx 16) 10 (-2147483648)) 15 (nI 832))) gg (p_w (upd (upd (p_m2 ge gx 16) 10 (-2147483648)) 15 (nI 832))) ge n k z t kn pl lf pn) H := hP
          have hD : va_D A (wMd G b gc gd gw gf gp ga gb (p_mix (va_cpy gg gh 0 0 8) (upd (upd (p_m2 ge gx 16) 10 (-2147483648)) 15 (nI 832))) gg (p_w (upd (upd (p_m2 ge gx 16) 10 (-2147483648)) 15 (nI 832))) ge n k z t kn pl lf pn) := hD
          exact ret 88 _ _ _ (p_mix (va_cpy gg gh 0 0 8) (upd (upd (p_m2 ge gx 16) 10 (-2147483648)) 15 (nI 832)), p_w (upd (upd (p_m2 ge gx 16) 10 (-2147483648)) 15 (nI 832))) dX3_mixSecond_88 (p_mix_congr (fun i h => cpy_00 h) (m2_ok ge gx)) hP hD hS
        · refine lv_aload_n hx hb dX3_mixSecond_34 rfl (lv_at hl 0 rfl) ?_
          refine va_get (D := G.1) (ci := 3) (v := .ref (b 10)) (C := RX3) (T := TX3) (N := 19) hx hb hts hiX3 hown hK hP 0 rfl rfl 17 (by decide) lk42 (fun _ h9 => h9) rfl dX3_mixSecond_35 ?_
          refine lv_iload_n hx hb dX3_mixSecond_38 rfl (lv_at hl 1 rfl) ?_
          refine lv_iload_n hx hb dX3_mixSecond_39 rfl (lv_at hl 1 rfl) ?_
          refine lv_bipush (v := nI 10) hx hb dX3_mixSecond_40 (by decide) ?_
          refine cmp_ge hx hb i2 10 57 (by omega) (by omega) dX3_mixSecond_42 (by decide) (fun c42 => ?_) (fun c42 => ?_)
          · refine lv_iconst (v := nI 0) hx hb dX3_mixSecond_57 (by decide) ?_
            refine wr_i hx hb hK hP hD hS 10 rfl i2 (by omega) (by omega) dX3_mixSecond_58 (fun H locs hP hD hS => ?_)
            have hP : va_P G.1 vwCl (wMd G b gc gd gw gf gp ga gb (va_cpy gg gh 0 0 8) gg (upd (p_m2 ge gx i2) i2 (nI 0)) ge n k z t kn pl lf pn) H := hP
            have hD : va_D A (wMd G b gc gd gw gf gp ga gb (va_cpy gg gh 0 0 8) gg (upd (p_m2 ge gx i2) i2 (nI 0)) ge n k z t kn pl lf pn) := hD
            rw [m2_b c42] at hP hD
            refine lv_iinc (v := nI (i2 + 1)) (lv' := [(1, .int (nI (i2 + 1))), (0, .ref (b 0))]) hx hb dX3_mixSecond_59 hl (k := 1) rfl (inc_N i2 1) (by decide) rfl (fun ls hl => ?_)
            refine lv_goto (tgt := 28) hx hb dX3_mixSecond_62 (by decide) ?_
            exact ih2 (i2 + 1) (by omega) (by omega) _ _ _ hP hD hS (lv_sub hl [1, 0] rfl)
          · refine lv_aload_n hx hb dX3_mixSecond_45 rfl (lv_at hl 0 rfl) ?_
            refine va_get (D := G.1) (ci := 3) (v := .ref (b 11)) (C := RX3) (T := TX3) (N := 19) hx hb hts hiX3 hown hK hP 0 rfl rfl 18 (by decide) lk45 (fun _ h9 => h9) rfl dX3_mixSecond_46 ?_
            refine lv_bipush (v := nI 16) hx hb dX3_mixSecond_49 (by decide) ?_
            refine lv_iload_n hx hb dX3_mixSecond_51 rfl (lv_at hl 1 rfl) ?_
            refine ad_N hx hb 16 i2 dX3_mixSecond_52 ?_
            refine rd_i hx hb hK hP 11 rfl (16 + i2) (by omega) (by omega) dX3_mixSecond_53 ?_
            refine lv_goto (tgt := 58) hx hb dX3_mixSecond_54 (by decide) ?_
            refine wr_i hx hb hK hP hD hS 10 rfl i2 (by omega) (by omega) dX3_mixSecond_58 (fun H locs hP hD hS => ?_)
            have hP : va_P G.1 vwCl (wMd G b gc gd gw gf gp ga gb (va_cpy gg gh 0 0 8) gg (upd (p_m2 ge gx i2) i2 (ge (16 + i2))) ge n k z t kn pl lf pn) H := hP
            have hD : va_D A (wMd G b gc gd gw gf gp ga gb (va_cpy gg gh 0 0 8) gg (upd (p_m2 ge gx i2) i2 (ge (16 + i2))) ge n k z t kn pl lf pn) := hD
            rw [m2_a c42] at hP hD
            refine lv_iinc (v := nI (i2 + 1)) (lv' := [(1, .int (nI (i2 + 1))), (0, .ref (b 0))]) hx hb dX3_mixSecond_59 hl (k := 1) rfl (inc_N i2 1) (by decide) rfl (fun ls hl => ?_)
            refine lv_goto (tgt := 28) hx hb dX3_mixSecond_62 (by decide) ?_
            exact ih2 (i2 + 1) (by omega) (by omega) _ _ _ hP hD hS (lv_sub hl [1, 0] rfl)
    · refine lv_aload_n hx hb dX3_mixSecond_8 rfl (lv_at hl 0 rfl) ?_
      refine va_get (D := G.1) (ci := 3) (v := .ref (b 8)) (C := RX3) (T := TX3) (N := 19) hx hb hts hiX3 hown hK hP 0 rfl rfl 15 (by decide) lk36 (fun _ h9 => h9) rfl dX3_mixSecond_9 ?_
      refine lv_iload_n hx hb dX3_mixSecond_12 rfl (lv_at hl 1 rfl) ?_
      refine lv_aload_n hx hb dX3_mixSecond_13 rfl (lv_at hl 0 rfl) ?_
      refine va_get (D := G.1) (ci := 3) (v := .ref (b 9)) (C := RX3) (T := TX3) (N := 19) hx hb hts hiX3 hown hK hP 0 rfl rfl 16 (by decide) lk39 (fun _ h9 => h9) rfl dX3_mixSecond_14 ?_
      refine lv_iload_n hx hb dX3_mixSecond_17 rfl (lv_at hl 1 rfl) ?_
      refine rd_i hx hb hK hP 9 rfl i1 (by omega) (by omega) dX3_mixSecond_18 ?_
      refine wr_i hx hb hK hP hD hS 8 rfl i1 (by omega) (by omega) dX3_mixSecond_19 (fun H locs hP hD hS => ?_)
      have hP : va_P G.1 vwCl (wMd G b gc gd gw gf gp ga gb (upd (va_cpy gg gh 0 0 i1) i1 (gg i1)) gg gx ge n k z t kn pl lf pn) H := hP
      have hD : va_D A (wMd G b gc gd gw gf gp ga gb (upd (va_cpy gg gh 0 0 i1) i1 (gg i1)) gg gx ge n k z t kn pl lf pn) := hD
      rw [cpy_s0] at hP hD
      refine lv_iinc (v := nI (i1 + 1)) (lv' := [(1, .int (nI (i1 + 1))), (0, .ref (b 0))]) hx hb dX3_mixSecond_20 hl (k := 1) rfl (inc_N i1 1) (by decide) rfl (fun ls hl => ?_)
      refine lv_goto (tgt := 2) hx hb dX3_mixSecond_23 (by decide) ?_
      exact ih1 (i1 + 1) (by omega) (by omega) _ _ _ hP hD hS (lv_sub hl [1, 0] rfl)
set_option maxHeartbeats 4000000 in
set_option maxRecDepth 100000 in
theorem m_zerosOf (l : Launch) (G : gG) (sz : Nat) (x : Int32)  : MetI l yX3_zerosOf wsX3_zerosOf ({ frames := 0, cells := 0, slots := 0, locals := 0 } : Room) [.int x] G (([] : va_W)) sz (fun _ : Unit => []) (fun r _ => r = nI (p_lz x)) := by
  refine ent_i _ cX3_zerosOf 2 RX3 (by decide) rfl rfl (Nat.le_of_ble_eq_true rfl) ?_
  intro p e s m args below meth c A Q ls hx hb hml hts hown hA hK hX ret hl hP hD hS
  have hl : lv_has ls 2 [(0, .int x)] := hl
  refine lv_iconst (v := nI 0) hx hb dX3_zerosOf_0 (by decide) ?_
  refine lv_istore_n (lv' := [(1, .int (nI 0)), (0, .int x)]) hx hb dX3_zerosOf_1 rfl hl (by decide) rfl (fun ls hl => ?_)
  suffices hloop1 : ∀ (fu1 : Nat) (i : Nat), (i ≤ 32) → (∀ j, j < i → 0 ≤ (x <<< (nI j &&& 31)).toInt) → 32 - i < fu1 → ∀ (H : Heap) (locs : List Loc) (ls : Array Slot), va_P G.1 vwCl (([] : va_W)) H → va_D A (([] : va_W)) → va_S A s.heap H locs → lv_has ls 2 [(0, .int x), (1, .int (nI i))] → W p l e ({ frames := 0, cells := 0, slots := 0, locals := 0 } : Room) s m args below meth c H locs 0 0 Q (F0 m 2 ls []) from hloop1 _ 0 (Nat.zero_le _) (fun j h => absurd h (Nat.not_lt_zero j)) (Nat.lt_succ_self _) _ _ _ hP hD hS (lv_sub hl [1, 0] rfl)
  clear hP hD hS hl
  intro fu1
  induction fu1 with
  | zero => intro i hi hm hfu; exact absurd hfu (Nat.not_lt_zero _)
  | succ fu1 ih1 =>
    intro i hi hm hfu1 H locs ls hP hD hS hl
    refine lv_iload_n hx hb dX3_zerosOf_2 rfl (lv_at hl 1 rfl) ?_
    refine lv_bipush (v := nI 32) hx hb dX3_zerosOf_3 (by decide) ?_
    refine cmp_ge hx hb i 32 20 (by omega) (by omega) dX3_zerosOf_5 (by decide) (fun c5 => ?_) (fun c5 => ?_)
    · refine lv_iload_n hx hb dX3_zerosOf_20 rfl (lv_at hl 1 rfl) ?_
      exact ret 21 _ _ _ (nI i) () dX3_zerosOf_21 (by rw [show i = 32 by omega] at hm ⊢; exact lzm_all hm) hP hD hS
    · refine lv_iload_n hx hb dX3_zerosOf_8 rfl (lv_at hl 0 rfl) ?_
      refine lv_iload_n hx hb dX3_zerosOf_9 rfl (lv_at hl 1 rfl) ?_
      refine lv_ishl hx hb dX3_zerosOf_10 ?_
      refine ifz_lt hx hb (x <<< (nI i &&& 31)) 20 dX3_zerosOf_11 (by decide) (fun c11 => ?_) (fun c11 => ?_)
      · refine lv_iload_n hx hb dX3_zerosOf_20 rfl (lv_at hl 1 rfl) ?_
        exact ret 21 _ _ _ (nI i) () dX3_zerosOf_21 (lzm_at (by omega) hm c11) hP hD hS
      · refine lv_iinc (v := nI (i + 1)) (lv' := [(1, .int (nI (i + 1))), (0, .int x)]) hx hb dX3_zerosOf_14 hl (k := 1) rfl (inc_N i 1) (by decide) rfl (fun ls hl => ?_)
        refine lv_goto (tgt := 2) hx hb dX3_zerosOf_17 (by decide) ?_
        exact ih1 (i + 1) (by omega) (lt_s hm c11) (by omega) _ _ _ hP hD hS (lv_sub hl [1, 0] rfl)
set_option maxHeartbeats 4000000 in
set_option maxRecDepth 100000 in
theorem m_zeros (l : Launch) (G : gG) (sz : Nat) (b : Nat → Nat) (gc gd gw gf gp ga gb gh gg gx ge : Nat → Int32) (n k z t : Nat) (kn : Int32) (pl lf pn : Nat)  (hn : n ≤ 60) (hk : k ≤ 8) (hz : z ≤ 20) (ht : t ≤ 100000) (hpl : pl ≤ 60) (hlf : lf ≤ 6) (hpn : pn ≤ 1560) (hga : ∀ j, j < 64 → ga j = st_K j) (hgb : ∀ j, j < 8 → gb j = st_S j)  : MetI l yX3_zeros wsX3_zeros ({ frames := 1, cells := 0, slots := 0, locals := 21 } : Room) [.ref (b 0)] G (wMd G b gc gd gw gf gp ga gb gh gg gx ge n k z t kn pl lf pn) sz (fun _ : Unit => wMd G b gc gd gw gf gp ga gb gh gg gx ge n k z t kn pl lf pn) (fun r _ => r = nI (p_zeros gh)) := by
  refine ent_i _ cX3_zeros 3 RX3 (by decide) rfl rfl (Nat.le_of_ble_eq_true rfl) ?_
  intro p e s m args below meth c A Q ls hx hb hml hts hown hA hK hX ret hl hP hD hS
  have hl : lv_has ls 3 [(0, .ref (b 0))] := hl
  have lk36 := hts (.fieldLink RX3 36 "MinedLedgerModel" "h" "[I") (by decide +kernel)
  have hiX3 : ∀ w ∈ wsX30, w ∈ wsX3_zeros := by decide +kernel
  refine lv_iconst (v := nI 0) hx hb dX3_zeros_0 (by decide) ?_
  refine lv_istore_n (lv' := [(1, .int (nI 0)), (0, .ref (b 0))]) hx hb dX3_zeros_1 rfl hl (by decide) rfl (fun ls hl => ?_)
  refine lv_iconst (v := nI 0) hx hb dX3_zeros_2 (by decide) ?_
  refine lv_istore_n (lv' := [(2, .int (nI 0)), (1, .int (nI 0)), (0, .ref (b 0))]) hx hb dX3_zeros_3 rfl hl (by decide) rfl (fun ls hl => ?_)
  suffices hloop1 : ∀ (fu1 : Nat) (i : Nat) (a1 : Nat), (i ≤ 8) → (a1 = 32 * i) → (∀ j, j < i → gh j = 0) → 8 - i < fu1 → ∀ (H : Heap) (locs : List Loc) (ls : Array Slot), va_P G.1 vwCl (wMd G b gc gd gw gf gp ga gb gh gg gx ge n k z t kn pl lf pn) H → va_D A (wMd G b gc gd gw gf gp ga gb gh gg gx ge n k z t kn pl lf pn) → va_S A s.heap H locs → lv_has ls 3 [(0, .ref (b 0)), (1, .int (nI a1)), (2, .int (nI i))] → W p l e ({ frames := 1, cells := 0, slots := 0, locals := 21 } : Room) s m args below meth c H locs 0 0 Q (F0 m 4 ls []) from hloop1 _ 0 0 (Nat.zero_le _) rfl (fun j h => absurd h (Nat.not_lt_zero j)) (Nat.lt_succ_self _) _ _ _ hP hD hS (lv_sub hl [2, 1, 0] rfl)
  clear hP hD hS hl
  intro fu1
  induction fu1 with
  | zero => intro i a1 hi ha1 hm hfu; exact absurd hfu (Nat.not_lt_zero _)
  | succ fu1 ih1 =>
    intro i a1 hi ha1 hm hfu1 H locs ls hP hD hS hl
    refine lv_iload_n hx hb dX3_zeros_4 rfl (lv_at hl 2 rfl) ?_
    refine lv_bipush (v := nI 8) hx hb dX3_zeros_5 (by decide) ?_
    refine cmp_ge hx hb i 8 28 (by omega) (by omega) dX3_zeros_7 (by decide) (fun c7 => ?_) (fun c7 => ?_)
    · have e28 : i = 8 := by omega
      refine lv_iload_n hx hb dX3_zeros_28 rfl (lv_at hl 2 rfl) ?_
      refine lv_bipush (v := nI 8) hx hb dX3_zeros_29 (by decide) ?_
      refine cmp_ge hx hb i 8 48 (by omega) (by omega) dX3_zeros_31 (by decide) (fun c31 => ?_) (fun c31 => ?_)
      · refine lv_iload_n hx hb dX3_zeros_48 rfl (lv_at hl 1 rfl) ?_
        exact ret 49 _ _ _ (nI a1) () dX3_zeros_49 (by rw [ha1, e28]; rw [e28] at hm; exact zeros_all hm) hP hD hS
      · refine lv_iload_n hx hb dX3_zeros_34 rfl (lv_at hl 1 rfl) ?_
        refine lv_aload_n hx hb dX3_zeros_35 rfl (lv_at hl 0 rfl) ?_
        refine va_get (D := G.1) (ci := 3) (v := .ref (b 8)) (C := RX3) (T := TX3) (N := 19) hx hb hts hiX3 hown hK hP 0 rfl rfl 15 (by decide) lk36 (fun _ h9 => h9) rfl dX3_zeros_36 ?_
        refine lv_iload_n hx hb dX3_zeros_39 rfl (lv_at hl 2 rfl) ?_
        refine rd_i hx hb hK hP 8 rfl i (by omega) (by omega) dX3_zeros_40 ?_
        refine call_Si (wr := ([(b 0, .inr (3, [.ref (b 1), .int (nI n), .ref (b 2), .ref (b 3), .int (nI k), .int (nI z), .int (nI t), .int kn, .ref (b 4), .int (nI pl), .int (nI lf), .ref (b 5), .int (nI pn), .ref (b 6), .ref (b 7), .ref (b 8), .ref (b 9), .ref (b 10), .ref (b 11)])), (b 1, .inl (G.2.2.1, 2040, .inl gc)), (b 2, .inl (G.2.2.1, 8, .inl gd)), (b 3, .inl (G.2.2.1, 8, .inl gw)), (b 4, .inl (G.2.2.2, 1024, .inl gf)), (b 5, .inl (G.2.2.1, 1600, .inl gp)), (b 6, .inl (G.2.2.1, 64, .inl ga)), (b 7, .inl (G.2.2.1, 8, .inl gb)), (b 8, .inl (G.2.2.1, 8, .inl gh)), (b 9, .inl (G.2.2.1, 8, .inl gg)), (b 10, .inl (G.2.2.1, 64, .inl gx)), (b 11, .inl (G.2.2.1, 26, .inl ge))] : va_W)) [.int (gh i)] [.int (nI a1)] ⟨hx, hb, hml, hown, hts⟩ hK hX hA hP hD hS (m_zerosOf l G _ (gh i)) (va_cwS 1 hts gX3_zeros_X3_zerosOf rfl rfl rfl (by decide +kernel) ⟨Nat.le_of_ble_eq_true rfl, Nat.le_of_ble_eq_true rfl⟩) [] [0, 1, 2, 3, 4, 5, 6, 7, 8, 9, 10, 11] rfl rfl (by decide) (by decide) (by decide) rfl hl.1 (Nat.le_of_ble_eq_true rfl) dX3_zeros_41 ⟨Nat.zero_le _, Nat.zero_le _⟩ (fun r_3 u H locs hw hP hD hS => ?_)
        obtain rfl := hw
        have hP : va_P G.1 vwCl (wMd G b gc gd gw gf gp ga gb gh gg gx ge n k z t kn pl lf pn) H := hP
        have hD : va_D A (wMd G b gc gd gw gf gp ga gb gh gg gx ge n k z t kn pl lf pn) := hD
        refine ad_N hx hb a1 (p_lz (gh i)) dX3_zeros_44 ?_
        refine lv_goto (tgt := 49) hx hb dX3_zeros_45 (by decide) ?_
        exact ret 49 _ _ _ (nI (a1 + (p_lz (gh i)))) () dX3_zeros_49 (by exfalso; omega) hP hD hS
    · refine lv_aload_n hx hb dX3_zeros_10 rfl (lv_at hl 0 rfl) ?_
      refine va_get (D := G.1) (ci := 3) (v := .ref (b 8)) (C := RX3) (T := TX3) (N := 19) hx hb hts hiX3 hown hK hP 0 rfl rfl 15 (by decide) lk36 (fun _ h9 => h9) rfl dX3_zeros_11 ?_
      refine lv_iload_n hx hb dX3_zeros_14 rfl (lv_at hl 2 rfl) ?_
      refine rd_i hx hb hK hP 8 rfl i (by omega) (by omega) dX3_zeros_15 ?_
      refine lv_if_ne (tgt := 28) hx hb dX3_zeros_16 (by decide) (fun c16 => ?_) (fun c16 => ?_)
      · refine lv_iload_n hx hb dX3_zeros_28 rfl (lv_at hl 2 rfl) ?_
        refine lv_bipush (v := nI 8) hx hb dX3_zeros_29 (by decide) ?_
        refine cmp_ge hx hb i 8 48 (by omega) (by omega) dX3_zeros_31 (by decide) (fun c31 => ?_) (fun c31 => ?_)
        · refine lv_iload_n hx hb dX3_zeros_48 rfl (lv_at hl 1 rfl) ?_
          exact ret 49 _ _ _ (nI a1) () dX3_zeros_49 (by exfalso; omega) hP hD hS
        · refine lv_iload_n hx hb dX3_zeros_34 rfl (lv_at hl 1 rfl) ?_
          refine lv_aload_n hx hb dX3_zeros_35 rfl (lv_at hl 0 rfl) ?_
          refine va_get (D := G.1) (ci := 3) (v := .ref (b 8)) (C := RX3) (T := TX3) (N := 19) hx hb hts hiX3 hown hK hP 0 rfl rfl 15 (by decide) lk36 (fun _ h9 => h9) rfl dX3_zeros_36 ?_
          refine lv_iload_n hx hb dX3_zeros_39 rfl (lv_at hl 2 rfl) ?_
          refine rd_i hx hb hK hP 8 rfl i (by omega) (by omega) dX3_zeros_40 ?_
          refine call_Si (wr := ([(b 0, .inr (3, [.ref (b 1), .int (nI n), .ref (b 2), .ref (b 3), .int (nI k), .int (nI z), .int (nI t), .int kn, .ref (b 4), .int (nI pl), .int (nI lf), .ref (b 5), .int (nI pn), .ref (b 6), .ref (b 7), .ref (b 8), .ref (b 9), .ref (b 10), .ref (b 11)])), (b 1, .inl (G.2.2.1, 2040, .inl gc)), (b 2, .inl (G.2.2.1, 8, .inl gd)), (b 3, .inl (G.2.2.1, 8, .inl gw)), (b 4, .inl (G.2.2.2, 1024, .inl gf)), (b 5, .inl (G.2.2.1, 1600, .inl gp)), (b 6, .inl (G.2.2.1, 64, .inl ga)), (b 7, .inl (G.2.2.1, 8, .inl gb)), (b 8, .inl (G.2.2.1, 8, .inl gh)), (b 9, .inl (G.2.2.1, 8, .inl gg)), (b 10, .inl (G.2.2.1, 64, .inl gx)), (b 11, .inl (G.2.2.1, 26, .inl ge))] : va_W)) [.int (gh i)] [.int (nI a1)] ⟨hx, hb, hml, hown, hts⟩ hK hX hA hP hD hS (m_zerosOf l G _ (gh i)) (va_cwS 1 hts gX3_zeros_X3_zerosOf rfl rfl rfl (by decide +kernel) ⟨Nat.le_of_ble_eq_true rfl, Nat.le_of_ble_eq_true rfl⟩) [] [0, 1, 2, 3, 4, 5, 6, 7, 8, 9, 10, 11] rfl rfl (by decide) (by decide) (by decide) rfl hl.1 (Nat.le_of_ble_eq_true rfl) dX3_zeros_41 ⟨Nat.zero_le _, Nat.zero_le _⟩ (fun r_6 u H locs hw hP hD hS => ?_)
          obtain rfl := hw
          have hP : va_P G.1 vwCl (wMd G b gc gd gw gf gp ga gb gh gg gx ge n k z t kn pl lf pn) H := hP
          have hD : va_D A (wMd G b gc gd gw gf gp ga gb gh gg gx ge n k z t kn pl lf pn) := hD
          refine ad_N hx hb a1 (p_lz (gh i)) dX3_zeros_44 ?_
          refine lv_goto (tgt := 49) hx hb dX3_zeros_45 (by decide) ?_
          exact ret 49 _ _ _ (nI (a1 + (p_lz (gh i)))) () dX3_zeros_49 (by rw [ha1]; exact zeros_at (by omega) hm c16) hP hD hS
      · refine lv_iinc (v := nI (a1 + 32)) (lv' := [(1, .int (nI (a1 + 32))), (0, .ref (b 0)), (2, .int (nI i))]) hx hb dX3_zeros_19 hl (k := 1) rfl (inc_N a1 32) (by decide) rfl (fun ls hl => ?_)
        refine lv_iinc (v := nI (i + 1)) (lv' := [(2, .int (nI (i + 1))), (1, .int (nI (a1 + 32))), (0, .ref (b 0))]) hx hb dX3_zeros_22 hl (k := 2) rfl (inc_N i 1) (by decide) rfl (fun ls hl => ?_)
        refine lv_goto (tgt := 4) hx hb dX3_zeros_25 (by decide) ?_
        exact ih1 (i + 1) (a1 + 32) (by omega) (by omega) (lt_s hm c16) (by omega) _ _ _ hP hD hS (lv_sub hl [2, 1, 0] rfl)
set_option maxHeartbeats 4000000 in
set_option maxRecDepth 100000 in
theorem m_draft (l : Launch) (G : gG) (sz : Nat) (b : Nat → Nat) (gc gd gw gf gp ga gb gh gg gx ge : Nat → Int32) (n k z t : Nat) (kn : Int32) (pl lf pn : Nat)  (hn : n ≤ 60) (hk : k ≤ 8) (hz : z ≤ 20) (ht : t ≤ 100000) (hpl : pl ≤ 60) (hlf : lf ≤ 6) (hpn : pn ≤ 1560) (hga : ∀ j, j < 64 → ga j = st_K j) (hgb : ∀ j, j < 8 → gb j = st_S j)  : MetV l yX3_draft wsX3_draft ({ frames := 1, cells := 0, slots := 0, locals := 22 } : Room) [.ref (b 0)] G (wMd G b gc gd gw gf gp ga gb gh gg gx ge n k z t kn pl lf pn) sz (fun _ : Unit => wMd G b gc gd gw gf gp ga gb gh gg gx (p_F gc gw ge n k z) n k z t kn pl lf pn) (fun _ => True) := by
  refine ent_v _ cX3_draft 2 RX3 (by decide) rfl rfl (Nat.le_of_ble_eq_true rfl) ?_
  intro p e s m args below meth c A Q ls hx hb hml hts hown hA hK hX ret hl hP hD hS
  have hl : lv_has ls 2 [(0, .ref (b 0))] := hl
  have lk16 := hts (.fieldLink RX3 16 "MinedLedgerModel" "words" "[I") (by decide +kernel)
  have lk45 := hts (.fieldLink RX3 45 "MinedLedgerModel" "entry" "[I") (by decide +kernel)
  have lk48 := hts (.fieldLink RX3 48 "MinedLedgerModel" "difficulty" "I") (by decide +kernel)
  have lk141 := hts (.fieldLink RX3 141 "MinedLedgerModel" "count" "I") (by decide +kernel)
  have lk150 := hts (.fieldLink RX3 150 "MinedLedgerModel" "wordCount" "I") (by decide +kernel)
  have hiX3 : ∀ w ∈ wsX30, w ∈ wsX3_draft := by decide +kernel
  refine lv_iconst (v := nI 0) hx hb dX3_draft_0 (by decide) ?_
  refine lv_istore_n (lv' := [(1, .int (nI 0)), (0, .ref (b 0))]) hx hb dX3_draft_1 rfl hl (by decide) rfl (fun ls hl => ?_)
  have hP : va_P G.1 vwCl (wMd G b gc gd gw gf gp ga gb gh gg gx (p_eN (p_ent gc gw n k) ge 0) n k z t kn pl lf pn) s.heap := by rw [eN_0]; exact hP
  have hD : va_D A (wMd G b gc gd gw gf gp ga gb gh gg gx (p_eN (p_ent gc gw n k) ge 0) n k z t kn pl lf pn) := by rw [eN_0]; exact hD
  suffices hloop1 : ∀ (fu1 : Nat) (i : Nat), (i ≤ 8) → 8 - i < fu1 → ∀ (H : Heap) (locs : List Loc) (ls : Array Slot), va_P G.1 vwCl (wMd G b gc gd gw gf gp ga gb gh gg gx (p_eN (p_ent gc gw n k) ge i) n k z t kn pl lf pn) H → va_D A (wMd G b gc gd gw gf gp ga gb gh gg gx (p_eN (p_ent gc gw n k) ge i) n k z t kn pl lf pn) → va_S A s.heap H locs → lv_has ls 2 [(0, .ref (b 0)), (1, .int (nI i))] → W p l e ({ frames := 1, cells := 0, slots := 0, locals := 22 } : Room) s m args below meth c H locs 0 0 Q (F0 m 2 ls []) from hloop1 _ 0 (Nat.zero_le _) (Nat.lt_succ_self _) _ _ _ hP hD hS (lv_sub hl [1, 0] rfl)
  clear hP hD hS hl
  intro fu1
  induction fu1 with
  | zero => intro i hi hfu; exact absurd hfu (Nat.not_lt_zero _)
  | succ fu1 ih1 =>
    intro i hi hfu1 H locs ls hP hD hS hl
    refine lv_iload_n hx hb dX3_draft_2 rfl (lv_at hl 1 rfl) ?_
    refine lv_bipush (v := nI 8) hx hb dX3_draft_3 (by decide) ?_
    refine cmp_ge hx hb i 8 106 (by omega) (by omega) dX3_draft_5 (by decide) (fun c5 => ?_) (fun c5 => ?_)
    · have e106 : i = 8 := by omega
      subst e106
      refine lv_aload_n hx hb dX3_draft_106 rfl (lv_at hl 0 rfl) ?_
      refine va_get (D := G.1) (ci := 3) (v := .ref (b 11)) (C := RX3) (T := TX3) (N := 19) hx hb hts hiX3 hown hK hP 0 rfl rfl 18 (by decide) lk45 (fun _ h9 => h9) rfl dX3_draft_107 ?_
      refine lv_bipush (v := nI 24) hx hb dX3_draft_110 (by decide) ?_
      refine lv_bipush (v := nI 16) hx hb dX3_draft_112 (by decide) ?_
      refine lv_aload_n hx hb dX3_draft_114 rfl (lv_at hl 0 rfl) ?_
      refine va_get (D := G.1) (ci := 3) (v := .int (nI z)) (C := RX3) (T := TX3) (N := 19) hx hb hts hiX3 hown hK hP 0 rfl rfl 5 (by decide) lk48 (fun _ h9 => h9) rfl dX3_draft_115 ?_
      refine mu_N hx hb 16 z dX3_draft_118 ?_
      refine lv_aload_n hx hb dX3_draft_119 rfl (lv_at hl 0 rfl) ?_
      refine va_get (D := G.1) (ci := 3) (v := .int (nI k)) (C := RX3) (T := TX3) (N := 19) hx hb hts hiX3 hown hK hP 0 rfl rfl 4 (by decide) lk150 (fun _ h9 => h9) rfl dX3_draft_120 ?_
      refine ad_N hx hb (16 * z) k dX3_draft_123 ?_
      refine wr_i hx hb hK hP hD hS 11 rfl 24 (by omega) (by omega) dX3_draft_124 (fun H locs hP hD hS => ?_)
      have hP : va_P G.1 vwCl (wMd G b gc gd gw gf gp ga gb gh gg gx (upd (p_eN (p_ent gc gw n k) ge 8) 24 (nI ((16 * z) + k))) n k z t kn pl lf pn) H := hP
      have hD : va_D A (wMd G b gc gd gw gf gp ga gb gh gg gx (upd (p_eN (p_ent gc gw n k) ge 8) 24 (nI ((16 * z) + k))) n k z t kn pl lf pn) := hD
      exact ret 125 _ _ _ () dX3_draft_125 (trivial) hP hD hS
    · refine lv_aload_n hx hb dX3_draft_8 rfl (lv_at hl 0 rfl) ?_
      refine va_get (D := G.1) (ci := 3) (v := .ref (b 11)) (C := RX3) (T := TX3) (N := 19) hx hb hts hiX3 hown hK hP 0 rfl rfl 18 (by decide) lk45 (fun _ h9 => h9) rfl dX3_draft_9 ?_
      refine lv_iload_n hx hb dX3_draft_12 rfl (lv_at hl 1 rfl) ?_
      refine lv_aload_n hx hb dX3_draft_13 rfl (lv_at hl 0 rfl) ?_
      refine va_get (D := G.1) (ci := 3) (v := .int (nI n)) (C := RX3) (T := TX3) (N := 19) hx hb hts hiX3 hown hK hP 0 rfl rfl 1 (by decide) lk141 (fun _ h9 => h9) rfl dX3_draft_14 ?_
      refine if0_ne hx hb n 24 (by omega) dX3_draft_17 (by decide) (fun c17 => ?_) (fun c17 => ?_)
      · refine lv_aload_n hx hb dX3_draft_24 rfl (lv_at hl 0 rfl) ?_
        refine lv_aload_n hx hb dX3_draft_25 rfl (lv_at hl 0 rfl) ?_
        refine va_get (D := G.1) (ci := 3) (v := .int (nI n)) (C := RX3) (T := TX3) (N := 19) hx hb hts hiX3 hown hK hP 0 rfl rfl 1 (by decide) lk141 (fun _ h9 => h9) rfl dX3_draft_26 ?_
        refine lv_iconst (v := nI 1) hx hb dX3_draft_29 (by decide) ?_
        refine su_N hx hb n 1 (by omega) dX3_draft_30 ?_
        refine lv_iload_n hx hb dX3_draft_31 rfl (lv_at hl 1 rfl) ?_
        refine call_Vi (wr := ([] : va_W)) [.int (nI (n - 1)), .int (nI i)] [.int (nI i), .ref (b 11)] ⟨hx, hb, hml, hown, hts⟩ hK hX hA hP hD hS (m_hashCell l G _ b gc gd gw gf gp ga gb gh gg gx (p_eN (p_ent gc gw n k) ge i) n k z t kn pl lf pn (n - 1) i (by omega) (by omega) (by omega) (by omega) (by omega) (by omega) (by omega) hga hgb (by omega) (by omega)) (cwV 2 hts gX3_draft_X3_hashCell rfl rfl rfl (by decide +kernel) ⟨Nat.le_of_ble_eq_true rfl, Nat.le_of_ble_eq_true rfl⟩) 3 0 rfl rfl rfl [0, 1, 2, 3, 4, 5, 6, 7, 8, 9, 10, 11] [] rfl rfl (by decide) (by decide) (by decide) rfl hl.1 (Nat.le_of_ble_eq_true rfl) dX3_draft_32 ⟨Nat.zero_le _, Nat.zero_le _⟩ (fun r_3 u H locs hw hP hD hS => ?_)
        obtain rfl := hw
        have hP : va_P G.1 vwCl (wMd G b gc gd gw gf gp ga gb gh gg gx (p_eN (p_ent gc gw n k) ge i) n k z t kn pl lf pn) H := hP
        have hD : va_D A (wMd G b gc gd gw gf gp ga gb gh gg gx (p_eN (p_ent gc gw n k) ge i) n k z t kn pl lf pn) := hD
        refine wr_i hx hb hK hP hD hS 11 rfl i (by omega) (by omega) dX3_draft_35 (fun H locs hP hD hS => ?_)
        have hP : va_P G.1 vwCl (wMd G b gc gd gw gf gp ga gb gh gg gx (upd (p_eN (p_ent gc gw n k) ge i) i (gc (34 * (n - 1) + 26 + i))) n k z t kn pl lf pn) H := hP
        have hD : va_D A (wMd G b gc gd gw gf gp ga gb gh gg gx (upd (p_eN (p_ent gc gw n k) ge i) i (gc (34 * (n - 1) + 26 + i))) n k z t kn pl lf pn) := hD
        refine lv_aload_n hx hb dX3_draft_36 rfl (lv_at hl 0 rfl) ?_
        refine va_get (D := G.1) (ci := 3) (v := .ref (b 11)) (C := RX3) (T := TX3) (N := 19) hx hb hts hiX3 hown hK hP 0 rfl rfl 18 (by decide) lk45 (fun _ h9 => h9) rfl dX3_draft_37 ?_
        refine lv_bipush (v := nI 8) hx hb dX3_draft_40 (by decide) ?_
        refine lv_iload_n hx hb dX3_draft_42 rfl (lv_at hl 1 rfl) ?_
        refine ad_N hx hb 8 i dX3_draft_43 ?_
        refine lv_aload_n hx hb dX3_draft_44 rfl (lv_at hl 0 rfl) ?_
        refine va_get (D := G.1) (ci := 3) (v := .int (nI n)) (C := RX3) (T := TX3) (N := 19) hx hb hts hiX3 hown hK hP 0 rfl rfl 1 (by decide) lk141 (fun _ h9 => h9) rfl dX3_draft_45 ?_
        refine if0_ne hx hb n 55 (by omega) dX3_draft_48 (by decide) (fun c48 => ?_) (fun c48 => ?_)
        · refine lv_aload_n hx hb dX3_draft_55 rfl (lv_at hl 0 rfl) ?_
          refine lv_aload_n hx hb dX3_draft_56 rfl (lv_at hl 0 rfl) ?_
          refine va_get (D := G.1) (ci := 3) (v := .int (nI n)) (C := RX3) (T := TX3) (N := 19) hx hb hts hiX3 hown hK hP 0 rfl rfl 1 (by decide) lk141 (fun _ h9 => h9) rfl dX3_draft_57 ?_
          refine lv_aload_n hx hb dX3_draft_60 rfl (lv_at hl 0 rfl) ?_
          refine va_get (D := G.1) (ci := 3) (v := .int (nI n)) (C := RX3) (T := TX3) (N := 19) hx hb hts hiX3 hown hK hP 0 rfl rfl 1 (by decide) lk141 (fun _ h9 => h9) rfl dX3_draft_61 ?_
          refine call_Si (wr := ([(b 0, .inr (3, [.ref (b 1), .int (nI n), .ref (b 2), .ref (b 3), .int (nI k), .int (nI z), .int (nI t), .int kn, .ref (b 4), .int (nI pl), .int (nI lf), .ref (b 5), .int (nI pn), .ref (b 6), .ref (b 7), .ref (b 8), .ref (b 9), .ref (b 10), .ref (b 11)])), (b 1, .inl (G.2.2.1, 2040, .inl gc)), (b 2, .inl (G.2.2.1, 8, .inl gd)), (b 3, .inl (G.2.2.1, 8, .inl gw)), (b 4, .inl (G.2.2.2, 1024, .inl gf)), (b 5, .inl (G.2.2.1, 1600, .inl gp)), (b 6, .inl (G.2.2.1, 64, .inl ga)), (b 7, .inl (G.2.2.1, 8, .inl gb)), (b 8, .inl (G.2.2.1, 8, .inl gh)), (b 9, .inl (G.2.2.1, 8, .inl gg)), (b 10, .inl (G.2.2.1, 64, .inl gx)), (b 11, .inl (G.2.2.1, 26, .inl (upd (p_eN (p_ent gc gw n k) ge i) i (gc (34 * (n - 1) + 26 + i)))))] : va_W)) [.int (nI n)] [.int (nI n), .ref (b 0), .int (nI (8 + i)), .ref (b 11)] ⟨hx, hb, hml, hown, hts⟩ hK hX hA hP hD hS (m_lowest l G _ (nI n)) (va_cwS 1 hts gX3_draft_X3_lowest rfl rfl rfl (by decide +kernel) ⟨Nat.le_of_ble_eq_true rfl, Nat.le_of_ble_eq_true rfl⟩) [] [0, 1, 2, 3, 4, 5, 6, 7, 8, 9, 10, 11] rfl rfl (by decide) (by decide) (by decide) rfl hl.1 (Nat.le_of_ble_eq_true rfl) dX3_draft_64 ⟨Nat.zero_le _, Nat.zero_le _⟩ (fun r_5 u H locs hw hP hD hS => ?_)
          obtain rfl := hw
          have hP : va_P G.1 vwCl (wMd G b gc gd gw gf gp ga gb gh gg gx (upd (p_eN (p_ent gc gw n k) ge i) i (gc (34 * (n - 1) + 26 + i))) n k z t kn pl lf pn) H := hP
          have hD : va_D A (wMd G b gc gd gw gf gp ga gb gh gg gx (upd (p_eN (p_ent gc gw n k) ge i) i (gc (34 * (n - 1) + 26 + i))) n k z t kn pl lf pn) := hD
          refine lv_isub hx hb dX3_draft_67 ?_
          refine top_i (nI (p_sk n)) (sk_eq n (by omega)) ?_
          have hsk := sk_lt n (by omega) (by omega)
          refine lv_iload_n hx hb dX3_draft_68 rfl (lv_at hl 1 rfl) ?_
          refine call_Vi (wr := ([] : va_W)) [.int (nI (p_sk n)), .int (nI i)] [.int (nI (8 + i)), .ref (b 11)] ⟨hx, hb, hml, hown, hts⟩ hK hX hA hP hD hS (m_hashCell l G _ b gc gd gw gf gp ga gb gh gg gx (upd (p_eN (p_ent gc gw n k) ge i) i (gc (34 * (n - 1) + 26 + i))) n k z t kn pl lf pn (p_sk n) i (by omega) (by omega) (by omega) (by omega) (by omega) (by omega) (by omega) hga hgb (by omega) (by omega)) (cwV 2 hts gX3_draft_X3_hashCell rfl rfl rfl (by decide +kernel) ⟨Nat.le_of_ble_eq_true rfl, Nat.le_of_ble_eq_true rfl⟩) 3 0 rfl rfl rfl [0, 1, 2, 3, 4, 5, 6, 7, 8, 9, 10, 11] [] rfl rfl (by decide) (by decide) (by decide) rfl hl.1 (Nat.le_of_ble_eq_true rfl) dX3_draft_69 ⟨Nat.zero_le _, Nat.zero_le _⟩ (fun r_6 u H locs hw hP hD hS => ?_)
          obtain rfl := hw
          have hP : va_P G.1 vwCl (wMd G b gc gd gw gf gp ga gb gh gg gx (upd (p_eN (p_ent gc gw n k) ge i) i (gc (34 * (n - 1) + 26 + i))) n k z t kn pl lf pn) H := hP
          have hD : va_D A (wMd G b gc gd gw gf gp ga gb gh gg gx (upd (p_eN (p_ent gc gw n k) ge i) i (gc (34 * (n - 1) + 26 + i))) n k z t kn pl lf pn) := hD
          refine wr_i hx hb hK hP hD hS 11 rfl (8 + i) (by omega) (by omega) dX3_draft_72 (fun H locs hP hD hS => ?_)
          have hP : va_P G.1 vwCl (wMd G b gc gd gw gf gp ga gb gh gg gx (upd (upd (p_eN (p_ent gc gw n k) ge i) i (gc (34 * (n - 1) + 26 + i))) (8 + i) (gc (34 * (p_sk n) + 26 + i))) n k z t kn pl lf pn) H := hP
          have hD : va_D A (wMd G b gc gd gw gf gp ga gb gh gg gx (upd (upd (p_eN (p_ent gc gw n k) ge i) i (gc (34 * (n - 1) + 26 + i))) (8 + i) (gc (34 * (p_sk n) + 26 + i))) n k z t kn pl lf pn) := hD
          refine lv_aload_n hx hb dX3_draft_73 rfl (lv_at hl 0 rfl) ?_
          refine va_get (D := G.1) (ci := 3) (v := .ref (b 11)) (C := RX3) (T := TX3) (N := 19) hx hb hts hiX3 hown hK hP 0 rfl rfl 18 (by decide) lk45 (fun _ h9 => h9) rfl dX3_draft_74 ?_
          refine lv_bipush (v := nI 16) hx hb dX3_draft_77 (by decide) ?_
          refine lv_iload_n hx hb dX3_draft_79 rfl (lv_at hl 1 rfl) ?_
          refine ad_N hx hb 16 i dX3_draft_80 ?_
          refine lv_iload_n hx hb dX3_draft_81 rfl (lv_at hl 1 rfl) ?_
          refine lv_aload_n hx hb dX3_draft_82 rfl (lv_at hl 0 rfl) ?_
          refine va_get (D := G.1) (ci := 3) (v := .int (nI k)) (C := RX3) (T := TX3) (N := 19) hx hb hts hiX3 hown hK hP 0 rfl rfl 4 (by decide) lk150 (fun _ h9 => h9) rfl dX3_draft_83 ?_
          refine cmp_ge hx hb i k 98 (by omega) (by omega) dX3_draft_86 (by decide) (fun c86 => ?_) (fun c86 => ?_)
          · refine lv_iconst (v := nI 0) hx hb dX3_draft_98 (by decide) ?_
            refine wr_i hx hb hK hP hD hS 11 rfl (16 + i) (by omega) (by omega) dX3_draft_99 (fun H locs hP hD hS => ?_)
            have hP : va_P G.1 vwCl (wMd G b gc gd gw gf gp ga gb gh gg gx (upd (upd (upd (p_eN (p_ent gc gw n k) ge i) i (gc (34 * (n - 1) + 26 + i))) (8 + i) (gc (34 * (p_sk n) + 26 + i))) (16 + i) (nI 0)) n k z t kn pl lf pn) H := hP
            have hD : va_D A (wMd G b gc gd gw gf gp ga gb gh gg gx (upd (upd (upd (p_eN (p_ent gc gw n k) ge i) i (gc (34 * (n - 1) + 26 + i))) (8 + i) (gc (34 * (p_sk n) + 26 + i))) (16 + i) (nI 0)) n k z t kn pl lf pn) := hD
            rw [eN_s (f := p_ent gc gw n k) (by omega) (by simp only [p_ent]; rw [if_pos (by omega), if_neg (by omega)]) (by simp only [p_ent]; rw [if_neg (by omega), if_pos (by omega), if_neg (by omega), show 8 + i - 8 = i by omega]) (by simp only [p_ent]; rw [if_neg (by omega), if_neg (by omega), if_neg (by omega)])] at hP hD
            refine lv_iinc (v := nI (i + 1)) (lv' := [(1, .int (nI (i + 1))), (0, .ref (b 0))]) hx hb dX3_draft_100 hl (k := 1) rfl (inc_N i 1) (by decide) rfl (fun ls hl => ?_)
            refine lv_goto (tgt := 2) hx hb dX3_draft_103 (by decide) ?_
            exact ih1 (i + 1) (by omega) (by omega) _ _ _ hP hD hS (lv_sub hl [1, 0] rfl)
          · refine lv_aload_n hx hb dX3_draft_89 rfl (lv_at hl 0 rfl) ?_
            refine va_get (D := G.1) (ci := 3) (v := .ref (b 3)) (C := RX3) (T := TX3) (N := 19) hx hb hts hiX3 hown hK hP 0 rfl rfl 3 (by decide) lk16 (fun _ h9 => h9) rfl dX3_draft_90 ?_
            refine lv_iload_n hx hb dX3_draft_93 rfl (lv_at hl 1 rfl) ?_
            refine rd_i hx hb hK hP 3 rfl i (by omega) (by omega) dX3_draft_94 ?_
            refine lv_goto (tgt := 99) hx hb dX3_draft_95 (by decide) ?_
            refine wr_i hx hb hK hP hD hS 11 rfl (16 + i) (by omega) (by omega) dX3_draft_99 (fun H locs hP hD hS => ?_)
            have hP : va_P G.1 vwCl (wMd G b gc gd gw gf gp ga gb gh gg gx (upd (upd (upd (p_eN (p_ent gc gw n k) ge i) i (gc (34 * (n - 1) + 26 + i))) (8 + i) (gc (34 * (p_sk n) + 26 + i))) (16 + i) (gw i)) n k z t kn pl lf pn) H := hP
            have hD : va_D A (wMd G b gc gd gw gf gp ga gb gh gg gx (upd (upd (upd (p_eN (p_ent gc gw n k) ge i) i (gc (34 * (n - 1) + 26 + i))) (8 + i) (gc (34 * (p_sk n) + 26 + i))) (16 + i) (gw i)) n k z t kn pl lf pn) := hD
            rw [eN_s (f := p_ent gc gw n k) (by omega) (by simp only [p_ent]; rw [if_pos (by omega), if_neg (by omega)]) (by simp only [p_ent]; rw [if_neg (by omega), if_pos (by omega), if_neg (by omega), show 8 + i - 8 = i by omega]) (by simp only [p_ent]; rw [if_neg (by omega), if_neg (by omega), if_pos (by omega), show 16 + i - 16 = i by omega])] at hP hD
            refine lv_iinc (v := nI (i + 1)) (lv' := [(1, .int (nI (i + 1))), (0, .ref (b 0))]) hx hb dX3_draft_100 hl (k := 1) rfl (inc_N i 1) (by decide) rfl (fun ls hl => ?_)
            refine lv_goto (tgt := 2) hx hb dX3_draft_103 (by decide) ?_
            exact ih1 (i + 1) (by omega) (by omega) _ _ _ hP hD hS (lv_sub hl [1, 0] rfl)
        · exfalso; omega
      · refine lv_iconst (v := nI 0) hx hb dX3_draft_20 (by decide) ?_
        refine lv_goto (tgt := 35) hx hb dX3_draft_21 (by decide) ?_
        refine wr_i hx hb hK hP hD hS 11 rfl i (by omega) (by omega) dX3_draft_35 (fun H locs hP hD hS => ?_)
        have hP : va_P G.1 vwCl (wMd G b gc gd gw gf gp ga gb gh gg gx (upd (p_eN (p_ent gc gw n k) ge i) i (nI 0)) n k z t kn pl lf pn) H := hP
        have hD : va_D A (wMd G b gc gd gw gf gp ga gb gh gg gx (upd (p_eN (p_ent gc gw n k) ge i) i (nI 0)) n k z t kn pl lf pn) := hD
        refine lv_aload_n hx hb dX3_draft_36 rfl (lv_at hl 0 rfl) ?_
        refine va_get (D := G.1) (ci := 3) (v := .ref (b 11)) (C := RX3) (T := TX3) (N := 19) hx hb hts hiX3 hown hK hP 0 rfl rfl 18 (by decide) lk45 (fun _ h9 => h9) rfl dX3_draft_37 ?_
        refine lv_bipush (v := nI 8) hx hb dX3_draft_40 (by decide) ?_
        refine lv_iload_n hx hb dX3_draft_42 rfl (lv_at hl 1 rfl) ?_
        refine ad_N hx hb 8 i dX3_draft_43 ?_
        refine lv_aload_n hx hb dX3_draft_44 rfl (lv_at hl 0 rfl) ?_
        refine va_get (D := G.1) (ci := 3) (v := .int (nI n)) (C := RX3) (T := TX3) (N := 19) hx hb hts hiX3 hown hK hP 0 rfl rfl 1 (by decide) lk141 (fun _ h9 => h9) rfl dX3_draft_45 ?_
        refine if0_ne hx hb n 55 (by omega) dX3_draft_48 (by decide) (fun c48 => ?_) (fun c48 => ?_)
        · exfalso; omega
        · refine lv_iconst (v := nI 0) hx hb dX3_draft_51 (by decide) ?_
          refine lv_goto (tgt := 72) hx hb dX3_draft_52 (by decide) ?_
          refine wr_i hx hb hK hP hD hS 11 rfl (8 + i) (by omega) (by omega) dX3_draft_72 (fun H locs hP hD hS => ?_)
          have hP : va_P G.1 vwCl (wMd G b gc gd gw gf gp ga gb gh gg gx (upd (upd (p_eN (p_ent gc gw n k) ge i) i (nI 0)) (8 + i) (nI 0)) n k z t kn pl lf pn) H := hP
          have hD : va_D A (wMd G b gc gd gw gf gp ga gb gh gg gx (upd (upd (p_eN (p_ent gc gw n k) ge i) i (nI 0)) (8 + i) (nI 0)) n k z t kn pl lf pn) := hD
          refine lv_aload_n hx hb dX3_draft_73 rfl (lv_at hl 0 rfl) ?_
          refine va_get (D := G.1) (ci := 3) (v := .ref (b 11)) (C := RX3) (T := TX3) (N := 19) hx hb hts hiX3 hown hK hP 0 rfl rfl 18 (by decide) lk45 (fun _ h9 => h9) rfl dX3_draft_74 ?_
          refine lv_bipush (v := nI 16) hx hb dX3_draft_77 (by decide) ?_
          refine lv_iload_n hx hb dX3_draft_79 rfl (lv_at hl 1 rfl) ?_
          refine ad_N hx hb 16 i dX3_draft_80 ?_
          refine lv_iload_n hx hb dX3_draft_81 rfl (lv_at hl 1 rfl) ?_
          refine lv_aload_n hx hb dX3_draft_82 rfl (lv_at hl 0 rfl) ?_
          refine va_get (D := G.1) (ci := 3) (v := .int (nI k)) (C := RX3) (T := TX3) (N := 19) hx hb hts hiX3 hown hK hP 0 rfl rfl 4 (by decide) lk150 (fun _ h9 => h9) rfl dX3_draft_83 ?_
          refine cmp_ge hx hb i k 98 (by omega) (by omega) dX3_draft_86 (by decide) (fun c86 => ?_) (fun c86 => ?_)
          · refine lv_iconst (v := nI 0) hx hb dX3_draft_98 (by decide) ?_
            refine wr_i hx hb hK hP hD hS 11 rfl (16 + i) (by omega) (by omega) dX3_draft_99 (fun H locs hP hD hS => ?_)
            have hP : va_P G.1 vwCl (wMd G b gc gd gw gf gp ga gb gh gg gx (upd (upd (upd (p_eN (p_ent gc gw n k) ge i) i (nI 0)) (8 + i) (nI 0)) (16 + i) (nI 0)) n k z t kn pl lf pn) H := hP
            have hD : va_D A (wMd G b gc gd gw gf gp ga gb gh gg gx (upd (upd (upd (p_eN (p_ent gc gw n k) ge i) i (nI 0)) (8 + i) (nI 0)) (16 + i) (nI 0)) n k z t kn pl lf pn) := hD
            rw [eN_s (f := p_ent gc gw n k) (by omega) (by simp only [p_ent]; rw [if_pos (by omega), if_pos (by omega)]) (by simp only [p_ent]; rw [if_neg (by omega), if_pos (by omega), if_pos (by omega)]) (by simp only [p_ent]; rw [if_neg (by omega), if_neg (by omega), if_neg (by omega)])] at hP hD
            refine lv_iinc (v := nI (i + 1)) (lv' := [(1, .int (nI (i + 1))), (0, .ref (b 0))]) hx hb dX3_draft_100 hl (k := 1) rfl (inc_N i 1) (by decide) rfl (fun ls hl => ?_)
            refine lv_goto (tgt := 2) hx hb dX3_draft_103 (by decide) ?_
            exact ih1 (i + 1) (by omega) (by omega) _ _ _ hP hD hS (lv_sub hl [1, 0] rfl)
          · refine lv_aload_n hx hb dX3_draft_89 rfl (lv_at hl 0 rfl) ?_
            refine va_get (D := G.1) (ci := 3) (v := .ref (b 3)) (C := RX3) (T := TX3) (N := 19) hx hb hts hiX3 hown hK hP 0 rfl rfl 3 (by decide) lk16 (fun _ h9 => h9) rfl dX3_draft_90 ?_
            refine lv_iload_n hx hb dX3_draft_93 rfl (lv_at hl 1 rfl) ?_
            refine rd_i hx hb hK hP 3 rfl i (by omega) (by omega) dX3_draft_94 ?_
            refine lv_goto (tgt := 99) hx hb dX3_draft_95 (by decide) ?_
            refine wr_i hx hb hK hP hD hS 11 rfl (16 + i) (by omega) (by omega) dX3_draft_99 (fun H locs hP hD hS => ?_)
            have hP : va_P G.1 vwCl (wMd G b gc gd gw gf gp ga gb gh gg gx (upd (upd (upd (p_eN (p_ent gc gw n k) ge i) i (nI 0)) (8 + i) (nI 0)) (16 + i) (gw i)) n k z t kn pl lf pn) H := hP
            have hD : va_D A (wMd G b gc gd gw gf gp ga gb gh gg gx (upd (upd (upd (p_eN (p_ent gc gw n k) ge i) i (nI 0)) (8 + i) (nI 0)) (16 + i) (gw i)) n k z t kn pl lf pn) := hD
            rw [eN_s (f := p_ent gc gw n k) (by omega) (by simp only [p_ent]; rw [if_pos (by omega), if_pos (by omega)]) (by simp only [p_ent]; rw [if_neg (by omega), if_pos (by omega), if_pos (by omega)]) (by simp only [p_ent]; rw [if_neg (by omega), if_neg (by omega), if_pos (by omega), show 16 + i - 16 = i by omega])] at hP hD
            refine lv_iinc (v := nI (i + 1)) (lv' := [(1, .int (nI (i + 1))), (0, .ref (b 0))]) hx hb dX3_draft_100 hl (k := 1) rfl (inc_N i 1) (by decide) rfl (fun ls hl => ?_)
            refine lv_goto (tgt := 2) hx hb dX3_draft_103 (by decide) ?_
            exact ih1 (i + 1) (by omega) (by omega) _ _ _ hP hD hS (lv_sub hl [1, 0] rfl)
