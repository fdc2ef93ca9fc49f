def anyN (p : Nat → Bool) (n : Nat) : Bool := !allN (fun i => !p i) n
theorem anyN_F {p : Nat → Bool} {n : Nat} (h : ∀ i, i < n → ¬ p i = true) : anyN p n = false := by
  rw [anyN, allN_iff.mpr (fun i hi => by have := h i hi; cases q : p i with | false => rfl | true => exact absurd q this)]; rfl
theorem anyN_T {p : Nat → Bool} {n i : Nat} (hi : i < n) (h : p i = true) : anyN p n = true := by
  cases q : anyN p n with
  | true => rfl
  | false =>
    rw [anyN] at q
    have := allN_iff.mp (show allN (fun i => !p i) n = true by cases z : allN (fun i => !p i) n with | true => rfl | false => rw [z] at q; cases q) i hi
    rw [h] at this
    cases this
def p_cph (fc fr : Nat → Int32) (n : Nat) (x : Int32) (d : Nat) : Nat → Int32 := if p_ok x n then va_cpy fc fr (p_ix x * 34 + 26) d 8 else p_fill fr d (d + 8) (nI 0)
def p_drf (fc fr : Nat → Int32) (n k z : Nat) : Nat → Int32 := upd (p_cph fc (p_cph fc fr n (nI n - nI 1) 0) n (p_skI n) 8) 24 (nI (16 * z + k))
theorem p_lz_le (x : Int32) : p_lz x ≤ 32 := by
  simp only [p_lz]
  split <;> omega
theorem p_zr_le (h : Nat → Int32) : ∀ n i, p_zr h n i ≤ 32 * (i + n)
  | 0, i => Nat.le_refl _
  | n + 1, i => by
    rw [p_zr]
    split
    · have := p_zr_le h n (i + 1); omega
    · have := p_lz_le (h i); omega
theorem p_zeros_le (h : Nat → Int32) : p_zeros h ≤ 256 := p_zr_le h 8 0
theorem p_zr_congr {h g : Nat → Int32} : ∀ n i, (∀ j, i ≤ j → j < i + n → h j = g j) → p_zr h n i = p_zr g n i
  | 0, i, _ => rfl
  | n + 1, i, e => by
    rw [p_zr, p_zr, e i (Nat.le_refl _) (by omega), p_zr_congr n (i + 1) (fun j h1 h2 => e j (by omega) (by omega))]
theorem p_zeros_congr {h g : Nat → Int32} (e : ∀ j, j < 8 → h j = g j) : p_zeros h = p_zeros g := p_zr_congr 8 0 (fun j _ hj => e j (by omega))
def p_nz (f : Nat → Int32) (v : Nat) : Nat := p_zeros (p_hash (upd f 25 (nI v)) 0)
theorem b2_congr {f g : Nat → Int32} {k i : Nat} (h : ∀ j, j < 10 → f (k + 16 + j) = g (i + 16 + j)) : ∀ j, j < 16 → p_b2 f k j = p_b2 g i j := by
  intro j hj
  simp only [p_b2]
  by_cases q : j < 10
  · rw [if_pos q, if_pos q, h j q]
  · rw [if_neg q, if_neg q]
theorem hash_congr {f g : Nat → Int32} {k i : Nat} (h : ∀ j, j < 26 → f (k + j) = g (i + j)) : ∀ j, j < 8 → p_hash f k j = p_hash g i j :=
  p_mix_congr (p_mix_congr (fun _ _ => rfl) (fun j hj => h j (by omega))) (b2_congr (fun j hj => by rw [Nat.add_assoc, Nat.add_assoc]; exact h (16 + j) (by omega)))
theorem nz_eq {mu fr ff : Nat → Int32} (v : Int32) (hm : ∀ j, j < 8 → mu j = p_h1 fr 0 j) (hf : ∀ j, j < 25 → ff j = fr j) : ∀ j, j < 8 → p_mix mu (p_b2 (upd ff 25 v) 0) j = p_hash (upd fr 25 v) 0 j := by
  refine p_mix_congr (fun j hj => ?_) (b2_congr (fun j hj => ?_))
  · rw [hm j hj]
    refine p_mix_congr (fun _ _ => rfl) (fun i hi => ?_) j hj
    rw [pk_un (by omega)]
  · by_cases q : 0 + 16 + j = 25
    · rw [q, pk_us, pk_us]
    · rw [pk_un q, pk_un q, hf _ (by omega)]
/-- what trying nonces comes to: from t on, q of them -/
def q_try (f : Nat → Int32) (z t q : Nat) (f' : Nat → Int32) (t' : Nat) (kn' : Int32) : Prop :=
  (kn' = (-1) ∧ t' = t + q ∧ (∀ j, j < 25 → f' j = f j) ∧ ∀ j, t ≤ j → j < t + q → p_nz f j < z) ∨
  (∃ v : Nat, t ≤ v ∧ v < t + q ∧ (∀ j, t ≤ j → j < v → p_nz f j < z) ∧ z ≤ p_nz f v ∧ kn' = nI v ∧ t' = v + 1 ∧ (∀ j, j < 26 → f' j = upd f 25 (nI v) j) ∧ ∀ j, j < 8 → f' (26 + j) = p_hash (upd f 25 (nI v)) 0 j)
def q_mine (fc fr : Nat → Int32) (n k z t : Nat) (kn x r : Int32) (fr' : Nat → Int32) (t' : Nat) (kn' : Int32) : Prop :=
  ((x.toInt < 1 ∨ 3000 < x.toInt) ∧ r = (-2) ∧ fr' = fr ∧ t' = t ∧ kn' = kn) ∨
  ((1 ≤ x.toInt ∧ x.toInt ≤ 3000) ∧ ((¬ kn = (-1) ∧ r = kn ∧ fr' = fr ∧ t' = t ∧ kn' = kn) ∨ (kn = (-1) ∧ ((100000 ≤ t ∧ r = (-3) ∧ fr' = fr ∧ t' = t ∧ kn' = kn) ∨
    (t < 100000 ∧ ∃ q : Nat, x = nI q ∧ q_try (p_drf fc fr n k z) z t (min q (100000 - t)) fr' t' kn' ∧ r = kn')))))
theorem nI_m1 {v : Nat} (h : v < 2147483648) : ¬ nI v = (-1) := by
  intro q
  have e := tI_N h
  rw [q] at e
  have : ((-1 : Int32)).toInt = -1 := by decide
  omega
def p_addN (fb fc : Nat → Int32) (b : Nat) : Nat → Nat → Int32
  | 0 => fb
  | i + 1 => p_incN (p_addN fb fc b i) (fc (b + i)) 4
def p_remN (fb fc : Nat → Int32) : Nat → Nat → Int32
  | 0 => p_fill fb 0 32 (nI 0)
  | e + 1 => p_addN (p_remN fb fc e) fc (e * 34 + 16) 8
def p_hw (fc : Nat → Int32) (x : Int32) (e : Nat) : Bool := anyN (fun i => decide (fc (e * 34 + 16 + i) = x)) 8
def q_find (fb fc : Nat → Int32) (n : Nat) (x r : Int32) : Prop :=
  (allN (p_has fb x) 4 = false ∧ r = (-1)) ∨ (allN (p_has fb x) 4 = true ∧ ((∃ e : Nat, e < n ∧ r = nI e ∧ p_hw fc x e = true ∧ ∀ i, i < e → p_hw fc x i = false) ∨ (r = (-1) ∧ ∀ i, i < n → p_hw fc x i = false)))
def q_commit (fb fc fd fr : Nat → Int32) (n k t : Nat) (kn r : Int32) (fb' fc' fd' fr' : Nat → Int32) (n' k' t' : Nat) (kn' : Int32) : Prop :=
  (60 ≤ n ∧ r = (-4) ∧ fb' = fb ∧ fc' = fc ∧ fd' = fd ∧ fr' = fr ∧ n' = n ∧ k' = k ∧ t' = t ∧ kn' = kn) ∨
  (n < 60 ∧ ((kn = (-1) ∧ r = (-3) ∧ fb' = fb ∧ fc' = fc ∧ fd' = fd ∧ fr' = fr ∧ n' = n ∧ k' = k ∧ t' = t ∧ kn' = kn) ∨
    (¬ kn = (-1) ∧ r = nI n ∧ fc' = va_cpy fr fc 0 (n * 34) 34 ∧ fb' = p_addN fb (va_cpy fr fc 0 (n * 34) 34) (n * 34 + 16) 8 ∧ fd' = va_cpy fr fd 26 0 8 ∧ fr' = p_fill fr (16 + 0) 24 (nI 0) ∧ n' = n + 1 ∧ k' = 0 ∧ t' = 0 ∧ kn' = (-1))))
def q_drop (fb fc fd : Nat → Int32) (n t : Nat) (kn : Int32) (pl : Nat) (r : Int32) (fb' fd' : Nat → Int32) (n' t' : Nat) (kn' : Int32) (pl' : Nat) : Prop :=
  (n = 0 ∧ r = (-1) ∧ fb' = fb ∧ fd' = fd ∧ n' = n ∧ t' = t ∧ kn' = kn ∧ pl' = pl) ∨
  (0 < n ∧ r = nI (n - 1) ∧ fb' = p_remN fb fc (n - 1) ∧ fd' = va_cpy fc fd ((n - 1) * 34 + 0) 0 8 ∧ n' = n - 1 ∧ t' = 0 ∧ kn' = (-1) ∧ pl' = min pl (n - 1))
set_option maxHeartbeats 4000000 in
set_option maxRecDepth 100000 in
theorem c_copyHashOf (l : Launch) (G : gG) (sz : Nat) (a : Nat → Nat) (fm fh fw fb fc fd fr fp : Nat → Int32) (n k z t : Nat) (kn : Int32) (pl lf pn : Nat) (x : Int32) (d : Nat) (hn : n ≤ 60) (hk : k ≤ 8) (hz : z ≤ 20) (ht : t ≤ 100000) (hpl : pl ≤ 60) (hlf : lf ≤ 6) (hpn : pn ≤ 1560) (hd : d + 8 ≤ 34) : MetV l yX2_copyHashOf wsX2_copyHashOf ({ frames := 2, cells := 0, slots := 0, locals := 46 } : Room) [.ref (a 0), .int x, .int (nI d)] G (wC G a fm fh fw fb fc fd fr fp n k z t kn pl lf pn) sz (fun _ : Unit => wC G a fm fh fw fb fc fd (p_cph fc fr n x d) fp n k z t kn pl lf pn) (fun _ => True) := by
  refine ent_v _ cX2_copyHashOf 3 RX2 (by decide) rfl rfl (Nat.le_of_ble_eq_true rfl) ?_
  intro p e s m args below meth c A Q ls hx hb hml hts hown hA hK hX ret hl hP hD hS
  have hl : lv_has ls 3 [(0, .ref (a 0)), (1, .int x), (2, .int (nI d))] := hl
  have lk23 := hts (.fieldLink RX2 23 "MinedLedger" "cells" "[I") (by decide +kernel)
  have lk30 := hts (.fieldLink RX2 30 "MinedLedger" "draft" "[I") (by decide +kernel)
  have hiX2 : ∀ w ∈ wsX20, w ∈ wsX2_copyHashOf := by decide +kernel
  refine lv_aload_n hx hb dX2_copyHashOf_0 rfl (lv_at hl 0 rfl) ?_
  refine lv_iload_n hx hb dX2_copyHashOf_1 rfl (lv_at hl 1 rfl) ?_
  refine call_Vi (wr := ([] : va_W)) [.int x] [] ⟨hx, hb, hml, hown, hts⟩ hK hX hA hP hD hS (c_hasEntry l G _ a fm fh fw fb fc fd fr fp n k z t kn pl lf pn x (by omega) (by omega) (by omega) (by omega) (by omega) (by omega) (by omega)) (cwV 1 hts gX2_copyHashOf_X2_hasEntry rfl rfl rfl (by decide +kernel) ⟨Nat.le_of_ble_eq_true rfl, Nat.le_of_ble_eq_true rfl⟩) 2 0 rfl rfl rfl [0, 1, 2, 3, 4, 5, 6, 7, 8, 9, 10] [] rfl rfl (by decide) (by decide) (by decide) rfl hl.1 (Nat.le_of_ble_eq_true rfl) dX2_copyHashOf_2 ⟨Nat.zero_le _, Nat.zero_le _⟩ (fun r_1 u H locs hw hP hD hS => ?_)
  obtain rfl := hw
  have hP : va_P G.1 vwCl (wC G a fm fh fw fb fc fd fr fp n k z t kn pl lf pn) H := hP
  have hD : va_D A (wC G a fm fh fw fb fc fd fr fp n k z t kn pl lf pn) := hD
  refine lv_if_eq (tgt := 32) hx hb dX2_copyHashOf_5 (by decide) (fun c5 => ?_) (fun c5 => ?_)
  · refine lv_aload_n hx hb dX2_copyHashOf_32 rfl (lv_at hl 0 rfl) ?_
    refine va_get (D := G.1) (ci := 2) (v := .ref (a 9)) (C := RX2) (T := TX2) (N := 14) hx hb hts hiX2 hown hK hP 0 rfl rfl 4 (by decide) lk30 (fun _ h9 => h9) rfl dX2_copyHashOf_33 ?_
    refine lv_iload_n hx hb dX2_copyHashOf_36 rfl (lv_at hl 2 rfl) ?_
    refine lv_iload_n hx hb dX2_copyHashOf_37 rfl (lv_at hl 2 rfl) ?_
    refine lv_bipush (v := nI 8) hx hb dX2_copyHashOf_38 (by decide) ?_
    refine ad_N hx hb d 8 dX2_copyHashOf_40 ?_
    refine lv_iconst (v := nI 0) hx hb dX2_copyHashOf_41 (by decide) ?_
    refine call_Sv (wr := ([(a 0, .inr (2, [.ref (a 1), .ref (a 5), .ref (a 7), .ref (a 8), .ref (a 9), .ref (a 10), .int (nI n), .int (nI k), .int (nI z), .int (nI t), .int kn, .int (nI pl), .int (nI lf), .int (nI pn)])), (a 1, .inr (1, [.ref (a 2), .ref (a 3), .ref (a 4)])), (a 2, .inl (G.2.2.1, 8, .inl fm)), (a 3, .inl (G.2.2.1, 8, .inl fh)), (a 4, .inl (G.2.2.1, 64, .inl fw)), (a 5, .inr (0, [.ref (a 6)])), (a 6, .inl (G.2.2.1, 32, .inl fb)), (a 7, .inl (G.2.2.1, 2040, .inl fc)), (a 8, .inl (G.2.2.1, 8, .inl fd)), (a 10, .inl (G.2.2.1, 1560, .inl fp))] : va_W)) [.ref (a 9), .int (nI d), .int (nI (d + 8)), .int (nI 0)] [] ⟨hx, hb, hml, hown, hts⟩ hK hX hA hP hD hS (c_fill4 l G _ (a 9) 34 d (d + 8) fr (nI 0) (by omega) (by omega) (by omega)) (va_cwS 4 hts gX2_copyHashOf_J7_fill_fda19 rfl rfl rfl (by decide +kernel) ⟨Nat.le_of_ble_eq_true rfl, Nat.le_of_ble_eq_true rfl⟩) [9] [0, 1, 2, 3, 4, 5, 6, 7, 8, 10] rfl rfl (by decide) (by decide) (by decide) rfl hl.1 (Nat.le_of_ble_eq_true rfl) dX2_copyHashOf_42 ⟨Nat.zero_le _, Nat.zero_le _⟩ (fun u H locs hw hP hD hS => ?_)
    have hP : va_P G.1 vwCl (wC G a fm fh fw fb fc fd (p_fill fr d (d + 8) (nI 0)) fp n k z t kn pl lf pn) H := hP.sub [0, 1, 2, 3, 4, 5, 6, 7, 8, 10, 9] rfl
    have hD : va_D A (wC G a fm fh fw fb fc fd (p_fill fr d (d + 8) (nI 0)) fp n k z t kn pl lf pn) := hD.sub [0, 1, 2, 3, 4, 5, 6, 7, 8, 10, 9] (by decide) rfl
    have ec : p_cph fc fr n x d = p_fill fr d (d + 8) (nI 0) := by rw [p_cph, bI_z c5]; rfl
    have hP : va_P G.1 vwCl (wC G a fm fh fw fb fc fd (p_cph fc fr n x d) fp n k z t kn pl lf pn) H := by rw [ec]; exact hP
    have hD : va_D A (wC G a fm fh fw fb fc fd (p_cph fc fr n x d) fp n k z t kn pl lf pn) := by rw [ec]; exact hD
    exact ret 45 _ _ _ () dX2_copyHashOf_45 (trivial) hP hD hS
  · have q5 := bI_n c5
    obtain ⟨j, hj, rfl⟩ := ok_of (by omega) q5
    refine lv_aload_n hx hb dX2_copyHashOf_8 rfl (lv_at hl 0 rfl) ?_
    refine va_get (D := G.1) (ci := 2) (v := .ref (a 7)) (C := RX2) (T := TX2) (N := 14) hx hb hts hiX2 hown hK hP 0 rfl rfl 2 (by decide) lk23 (fun _ h9 => h9) rfl dX2_copyHashOf_9 ?_
    refine lv_iload_n hx hb dX2_copyHashOf_12 rfl (lv_at hl 1 rfl) ?_
    refine lv_bipush (v := nI 34) hx hb dX2_copyHashOf_13 (by decide) ?_
    refine mu_N hx hb j 34 dX2_copyHashOf_15 ?_
    refine lv_bipush (v := nI 26) hx hb dX2_copyHashOf_16 (by decide) ?_
    refine ad_N hx hb (j * 34) 26 dX2_copyHashOf_18 ?_
    refine lv_aload_n hx hb dX2_copyHashOf_19 rfl (lv_at hl 0 rfl) ?_
    refine va_get (D := G.1) (ci := 2) (v := .ref (a 9)) (C := RX2) (T := TX2) (N := 14) hx hb hts hiX2 hown hK hP 0 rfl rfl 4 (by decide) lk30 (fun _ h9 => h9) rfl dX2_copyHashOf_20 ?_
    refine lv_iload_n hx hb dX2_copyHashOf_23 rfl (lv_at hl 2 rfl) ?_
    refine lv_bipush (v := nI 8) hx hb dX2_copyHashOf_24 (by decide) ?_
    refine cpy_i hx hb (by rw [hml]; exact hl.1.symm) hown (hts (.methodLink RX2 84 arraycopyName) (by decide +kernel)) (hts (.native arraycopyName) (by decide +kernel)) (hts (.static arraycopyName) (by decide +kernel)) (hts (.initialized "java/lang/System") (by decide +kernel)) hK hP hD hS 7 9 rfl rfl ((j * 34) + 26) d 8 (by omega) (by omega) (by omega) (Nat.le_of_ble_eq_true rfl) (Nat.le_of_ble_eq_true rfl) dX2_copyHashOf_26 (fun H locs hP hD hS => ?_)
    have hP : va_P G.1 vwCl (wC G a fm fh fw fb fc fd (va_cpy fc fr ((j * 34) + 26) d 8) fp n k z t kn pl lf pn) H := hP
    have hD : va_D A (wC G a fm fh fw fb fc fd (va_cpy fc fr ((j * 34) + 26) d 8) fp n k z t kn pl lf pn) := hD
    refine lv_goto (tgt := 45) hx hb dX2_copyHashOf_29 (by decide) ?_
    have ec : p_cph fc fr n (nI j) d = va_cpy fc fr (j * 34 + 26) d 8 := by rw [p_cph, q5, ix_N hj (by omega)]; rfl
    have hP : va_P G.1 vwCl (wC G a fm fh fw fb fc fd (p_cph fc fr n (nI j) d) fp n k z t kn pl lf pn) H := by rw [ec]; exact hP
    have hD : va_D A (wC G a fm fh fw fb fc fd (p_cph fc fr n (nI j) d) fp n k z t kn pl lf pn) := by rw [ec]; exact hD
    exact ret 45 _ _ _ () dX2_copyHashOf_45 (trivial) hP hD hS
set_option maxHeartbeats 4000000 in
set_option maxRecDepth 100000 in
theorem c_fillDraft (l : Launch) (G : gG) (sz : Nat) (a : Nat → Nat) (fm fh fw fb fc fd fr fp : Nat → Int32) (n k z t : Nat) (kn : Int32) (pl lf pn : Nat)  (hn : n ≤ 60) (hk : k ≤ 8) (hz : z ≤ 20) (ht : t ≤ 100000) (hpl : pl ≤ 60) (hlf : lf ≤ 6) (hpn : pn ≤ 1560)  : MetV l yX2_fillDraft wsX2_fillDraft ({ frames := 3, cells := 0, slots := 0, locals := 68 } : Room) [.ref (a 0)] G (wC G a fm fh fw fb fc fd fr fp n k z t kn pl lf pn) sz (fun _ : Unit => wC G a fm fh fw fb fc fd (p_drf fc fr n k z) fp n k z t kn pl lf pn) (fun _ => True) := by
  refine ent_v _ cX2_fillDraft 1 RX2 (by decide) rfl rfl (Nat.le_of_ble_eq_true rfl) ?_
  intro p e s m args below meth c A Q ls hx hb hml hts hown hA hK hX ret hl hP hD hS
  have hl : lv_has ls 1 [(0, .ref (a 0))] := hl
  have lk30 := hts (.fieldLink RX2 30 "MinedLedger" "draft" "[I") (by decide +kernel)
  have lk36 := hts (.fieldLink RX2 36 "MinedLedger" "entryCount" "I") (by decide +kernel)
  have lk40 := hts (.fieldLink RX2 40 "MinedLedger" "wordCount" "I") (by decide +kernel)
  have lk52 := hts (.fieldLink RX2 52 "MinedLedger" "zerosAsked" "I") (by decide +kernel)
  have hiX2 : ∀ w ∈ wsX20, w ∈ wsX2_fillDraft := by decide +kernel
  refine lv_aload_n hx hb dX2_fillDraft_0 rfl (lv_at hl 0 rfl) ?_
  refine lv_aload_n hx hb dX2_fillDraft_1 rfl (lv_at hl 0 rfl) ?_
  refine va_get (D := G.1) (ci := 2) (v := .int (nI n)) (C := RX2) (T := TX2) (N := 14) hx hb hts hiX2 hown hK hP 0 rfl rfl 6 (by decide) lk36 (fun _ h9 => h9) rfl dX2_fillDraft_2 ?_
  refine lv_iconst (v := nI 1) hx hb dX2_fillDraft_5 (by decide) ?_
  refine lv_isub hx hb dX2_fillDraft_6 ?_
  refine lv_iconst (v := nI 0) hx hb dX2_fillDraft_7 (by decide) ?_
  refine call_Vv (wr := ([] : va_W)) [.int (nI n - nI 1), .int (nI 0)] [] ⟨hx, hb, hml, hown, hts⟩ hK hX hA hP hD hS (c_copyHashOf l G _ a fm fh fw fb fc fd fr fp n k z t kn pl lf pn (nI n - nI 1) 0 (by omega) (by omega) (by omega) (by omega) (by omega) (by omega) (by omega) (by omega)) (cwV 2 hts gX2_fillDraft_X2_copyHashOf rfl rfl rfl (by decide +kernel) ⟨Nat.le_of_ble_eq_true rfl, Nat.le_of_ble_eq_true rfl⟩) 2 0 rfl rfl rfl [0, 1, 2, 3, 4, 5, 6, 7, 8, 9, 10] [] rfl rfl (by decide) (by decide) (by decide) rfl hl.1 (Nat.le_of_ble_eq_true rfl) dX2_fillDraft_8 ⟨Nat.zero_le _, Nat.zero_le _⟩ (fun u H locs hw hP hD hS => ?_)
  have hP : va_P G.1 vwCl (wC G a fm fh fw fb fc fd (p_cph fc fr n (nI n - nI 1) 0) fp n k z t kn pl lf pn) H := hP
  have hD : va_D A (wC G a fm fh fw fb fc fd (p_cph fc fr n (nI n - nI 1) 0) fp n k z t kn pl lf pn) := hD
  refine lv_aload_n hx hb dX2_fillDraft_11 rfl (lv_at hl 0 rfl) ?_
  refine lv_aload_n hx hb dX2_fillDraft_12 rfl (lv_at hl 0 rfl) ?_
  refine va_get (D := G.1) (ci := 2) (v := .int (nI n)) (C := RX2) (T := TX2) (N := 14) hx hb hts hiX2 hown hK hP 0 rfl rfl 6 (by decide) lk36 (fun _ h9 => h9) rfl dX2_fillDraft_13 ?_
  refine call_Si (wr := ([(a 0, .inr (2, [.ref (a 1), .ref (a 5), .ref (a 7), .ref (a 8), .ref (a 9), .ref (a 10), .int (nI n), .int (nI k), .int (nI z), .int (nI t), .int kn, .int (nI pl), .int (nI lf), .int (nI pn)])), (a 1, .inr (1, [.ref (a 2), .ref (a 3), .ref (a 4)])), (a 2, .inl (G.2.2.1, 8, .inl fm)), (a 3, .inl (G.2.2.1, 8, .inl fh)), (a 4, .inl (G.2.2.1, 64, .inl fw)), (a 5, .inr (0, [.ref (a 6)])), (a 6, .inl (G.2.2.1, 32, .inl fb)), (a 7, .inl (G.2.2.1, 2040, .inl fc)), (a 8, .inl (G.2.2.1, 8, .inl fd)), (a 9, .inl (G.2.2.1, 34, .inl (p_cph fc fr n (nI n - nI 1) 0))), (a 10, .inl (G.2.2.1, 1560, .inl fp))] : va_W)) [.int (nI n)] [.ref (a 0)] ⟨hx, hb, hml, hown, hts⟩ hK hX hA hP hD hS (c_skipOf l G _ n (by omega)) (va_cwS 1 hts gX2_fillDraft_X2_skipOf rfl rfl rfl (by decide +kernel) ⟨Nat.le_of_ble_eq_true rfl, Nat.le_of_ble_eq_true rfl⟩) [] [0, 1, 2, 3, 4, 5, 6, 7, 8, 9, 10] rfl rfl (by decide) (by decide) (by decide) rfl hl.1 (Nat.le_of_ble_eq_true rfl) dX2_fillDraft_16 ⟨Nat.zero_le _, Nat.zero_le _⟩ (fun r_2 u H locs hw hP hD hS => ?_)
  obtain rfl := hw
  have hP : va_P G.1 vwCl (wC G a fm fh fw fb fc fd (p_cph fc fr n (nI n - nI 1) 0) fp n k z t kn pl lf pn) H := hP
  have hD : va_D A (wC G a fm fh fw fb fc fd (p_cph fc fr n (nI n - nI 1) 0) fp n k z t kn pl lf pn) := hD
  refine lv_bipush (v := nI 8) hx hb dX2_fillDraft_19 (by decide) ?_
  refine call_Vv (wr := ([] : va_W)) [.int (p_skI n), .int (nI 8)] [] ⟨hx, hb, hml, hown, hts⟩ hK hX hA hP hD hS (c_copyHashOf l G _ a fm fh fw fb fc fd (p_cph fc fr n (nI n - nI 1) 0) fp n k z t kn pl lf pn (p_skI n) 8 (by omega) (by omega) (by omega) (by omega) (by omega) (by omega) (by omega) (by omega)) (cwV 2 hts gX2_fillDraft_X2_copyHashOf rfl rfl rfl (by decide +kernel) ⟨Nat.le_of_ble_eq_true rfl, Nat.le_of_ble_eq_true rfl⟩) 2 0 rfl rfl rfl [0, 1, 2, 3, 4, 5, 6, 7, 8, 9, 10] [] rfl rfl (by decide) (by decide) (by decide) rfl hl.1 (Nat.le_of_ble_eq_true rfl) dX2_fillDraft_21 ⟨Nat.zero_le _, Nat.zero_le _⟩ (fun u H locs hw hP hD hS => ?_)
  have hP : va_P G.1 vwCl (wC G a fm fh fw fb fc fd (p_cph fc (p_cph fc fr n (nI n - nI 1) 0) n (p_skI n) 8) fp n k z t kn pl lf pn) H := hP
  have hD : va_D A (wC G a fm fh fw fb fc fd (p_cph fc (p_cph fc fr n (nI n - nI 1) 0) n (p_skI n) 8) fp n k z t kn pl lf pn) := hD
  refine lv_aload_n hx hb dX2_fillDraft_24 rfl (lv_at hl 0 rfl) ?_
  refine va_get (D := G.1) (ci := 2) (v := .ref (a 9)) (C := RX2) (T := TX2) (N := 14) hx hb hts hiX2 hown hK hP 0 rfl rfl 4 (by decide) lk30 (fun _ h9 => h9) rfl dX2_fillDraft_25 ?_
  refine lv_bipush (v := nI 24) hx hb dX2_fillDraft_28 (by decide) ?_
  refine lv_bipush (v := nI 16) hx hb dX2_fillDraft_30 (by decide) ?_
  refine lv_aload_n hx hb dX2_fillDraft_32 rfl (lv_at hl 0 rfl) ?_
  refine va_get (D := G.1) (ci := 2) (v := .int (nI z)) (C := RX2) (T := TX2) (N := 14) hx hb hts hiX2 hown hK hP 0 rfl rfl 8 (by decide) lk52 (fun _ h9 => h9) rfl dX2_fillDraft_33 ?_
  refine mu_N hx hb 16 z dX2_fillDraft_36 ?_
  refine lv_aload_n hx hb dX2_fillDraft_37 rfl (lv_at hl 0 rfl) ?_
  refine va_get (D := G.1) (ci := 2) (v := .int (nI k)) (C := RX2) (T := TX2) (N := 14) hx hb hts hiX2 hown hK hP 0 rfl rfl 7 (by decide) lk40 (fun _ h9 => h9) rfl dX2_fillDraft_38 ?_
  refine ad_N hx hb (16 * z) k dX2_fillDraft_41 ?_
  refine wr_i hx hb hK hP hD hS 9 rfl 24 (by omega) (by omega) dX2_fillDraft_42 (fun H locs hP hD hS => ?_)
  have hP : va_P G.1 vwCl (wC G a fm fh fw fb fc fd (upd (p_cph fc (p_cph fc fr n (nI n - nI 1) 0) n (p_skI n) 8) 24 (nI ((16 * z) + k))) fp n k z t kn pl lf pn) H := hP
  have hD : va_D A (wC G a fm fh fw fb fc fd (upd (p_cph fc (p_cph fc fr n (nI n - nI 1) 0) n (p_skI n) 8) 24 (nI ((16 * z) + k))) fp n k z t kn pl lf pn) := hD
  exact ret 43 _ _ _ () dX2_fillDraft_43 (trivial) hP hD hS
set_option maxHeartbeats 4000000 in
set_option maxRecDepth 100000 in
theorem c_tryNonces (l : Launch) (G : gG) (sz : Nat) (a : Nat → Nat) (fm fh fw fb fc fd fr fp : Nat → Int32) (n k z t : Nat) (pl lf pn : Nat) (q : Nat) (hn : n ≤ 60) (hk : k ≤ 8) (hz : z ≤ 20) (ht : t ≤ 100000) (hpl : pl ≤ 60) (hlf : lf ≤ 6) (hpn : pn ≤ 1560) (hq : t + q ≤ 100000) : MetV l yX2_tryNonces wsX2_tryNonces ({ frames := 4, cells := 0, slots := 0, locals := 99 } : Room) [.ref (a 0), .int (nI q)] G (wC G a fm fh fw fb fc fd fr fp n k z t (-1) pl lf pn) sz (fun u : (Nat → Int32) × (Nat → Int32) × (Nat → Int32) × (Nat → Int32) × Nat × Int32 => wC G a u.1 u.2.1 u.2.2.1 fb fc fd u.2.2.2.1 fp n k z u.2.2.2.2.1 u.2.2.2.2.2 pl lf pn) (fun u => q_try fr z t q u.2.2.2.1 u.2.2.2.2.1 u.2.2.2.2.2) := by
  refine ent_v _ cX2_tryNonces 3 RX2 (by decide) rfl rfl (Nat.le_of_ble_eq_true rfl) ?_
  intro p e s m args below meth c A Q ls hx hb hml hts hown hA hK hX ret hl hP hD hS
  have hl : lv_has ls 3 [(0, .ref (a 0)), (1, .int (nI q))] := hl
  have lk10 := hts (.fieldLink RX2 10 "MinedLedger" "hasher" "LMinedLedger$Hasher;") (by decide +kernel)
  have lk30 := hts (.fieldLink RX2 30 "MinedLedger" "draft" "[I") (by decide +kernel)
  have lk52 := hts (.fieldLink RX2 52 "MinedLedger" "zerosAsked" "I") (by decide +kernel)
  have lk55 := hts (.fieldLink RX2 55 "MinedLedger" "triedCount" "I") (by decide +kernel)
  have lk58 := hts (.fieldLink RX2 58 "MinedLedger" "keptNonce" "I") (by decide +kernel)
  have hiX2 : ∀ w ∈ wsX20, w ∈ wsX2_tryNonces := by decide +kernel
  refine lv_aload_n hx hb dX2_tryNonces_0 rfl (lv_at hl 0 rfl) ?_
  refine va_get (D := G.1) (ci := 2) (v := .ref (a 1)) (C := RX2) (T := TX2) (N := 14) hx hb hts hiX2 hown hK hP 0 rfl rfl 0 (by decide) lk10 (fun _ h9 => h9) rfl dX2_tryNonces_1 ?_
  refine lv_aload_n hx hb dX2_tryNonces_4 rfl (lv_at hl 0 rfl) ?_
  refine va_get (D := G.1) (ci := 2) (v := .ref (a 9)) (C := RX2) (T := TX2) (N := 14) hx hb hts hiX2 hown hK hP 0 rfl rfl 4 (by decide) lk30 (fun _ h9 => h9) rfl dX2_tryNonces_5 ?_
  refine lv_iconst (v := nI 0) hx hb dX2_tryNonces_8 (by decide) ?_
  refine call_Vv (wr := ([(a 0, .inr (2, [.ref (a 1), .ref (a 5), .ref (a 7), .ref (a 8), .ref (a 9), .ref (a 10), .int (nI n), .int (nI k), .int (nI z), .int (nI t), .int (-1), .int (nI pl), .int (nI lf), .int (nI pn)])), (a 5, .inr (0, [.ref (a 6)])), (a 6, .inl (G.2.2.1, 32, .inl fb)), (a 7, .inl (G.2.2.1, 2040, .inl fc)), (a 8, .inl (G.2.2.1, 8, .inl fd)), (a 10, .inl (G.2.2.1, 1560, .inl fp))] : va_W)) [.ref (a 9), .int (nI 0)] [] ⟨hx, hb, hml, hown, hts⟩ hK hX hA hP hD hS (c_takeFirst l G _ (a 1) (a 2) (a 3) (a 4) (a 9) 34 0 fm fh fw fr (by omega) (by omega)) (cwV 2 hts gX2_tryNonces_X1_takeFirst rfl rfl rfl (by decide +kernel) ⟨Nat.le_of_ble_eq_true rfl, Nat.le_of_ble_eq_true rfl⟩) 1 1 rfl rfl rfl [1, 2, 3, 4, 9] [0, 5, 6, 7, 8, 10] rfl rfl (by decide) (by decide) (by decide) rfl hl.1 (Nat.le_of_ble_eq_true rfl) dX2_tryNonces_9 ⟨Nat.zero_le _, Nat.zero_le _⟩ (fun u H locs hw hP hD hS => ?_)
  obtain ⟨mu_2, wu_2⟩ := u
  have hu_2 : ∀ j, j < 8 → mu_2 j = p_h1 fr 0 j := hw
  have hP : va_P G.1 vwCl (wC G a mu_2 fh wu_2 fb fc fd fr fp n k z t (-1) pl lf pn) H := hP.sub [0, 6, 7, 8, 9, 1, 2, 3, 4, 10, 5] rfl
  have hD : va_D A (wC G a mu_2 fh wu_2 fb fc fd fr fp n k z t (-1) pl lf pn) := hD.sub [0, 6, 7, 8, 9, 1, 2, 3, 4, 10, 5] (by decide) rfl
  refine lv_iconst (v := nI 0) hx hb dX2_tryNonces_12 (by decide) ?_
  refine lv_istore_n (lv' := [(2, .int (nI 0)), (0, .ref (a 0)), (1, .int (nI q))]) hx hb dX2_tryNonces_13 rfl hl (by decide) rfl (fun ls hl => ?_)
  suffices hloop1 : ∀ (fu1 : Nat) (i : Nat) (hh : Nat → Int32) (ww : Nat → Int32) (ff : Nat → Int32) (tt : Nat) (kk : Int32), (i ≤ q) → (tt ≤ 100000) → ((kk = (-1) ∧ tt = t + i ∧ (∀ j, j < 25 → ff j = fr j) ∧ ∀ j, t ≤ j → j < t + i → p_nz fr j < z) ∨ (∃ v : Nat, t ≤ v ∧ v < t + q ∧ (∀ j, t ≤ j → j < v → p_nz fr j < z) ∧ z ≤ p_nz fr v ∧ kk = nI v ∧ tt = v + 1 ∧ (∀ j, j < 26 → ff j = upd fr 25 (nI v) j) ∧ ∀ j, j < 8 → ff (26 + j) = p_hash (upd fr 25 (nI v)) 0 j)) → q - i < fu1 → ∀ (H : Heap) (locs : List Loc) (ls : Array Slot), va_P G.1 vwCl (wC G a mu_2 hh ww fb fc fd ff fp n k z tt kk pl lf pn) H → va_D A (wC G a mu_2 hh ww fb fc fd ff fp n k z tt kk pl lf pn) → va_S A s.heap H locs → lv_has ls 3 [(0, .ref (a 0)), (1, .int (nI q)), (2, .int (nI i))] → W p l e ({ frames := 4, cells := 0, slots := 0, locals := 99 } : Room) s m args below meth c H locs 0 0 Q (F0 m 14 ls []) from hloop1 _ 0 fh wu_2 fr t (-1) (Nat.zero_le _) ht (Or.inl ⟨rfl, rfl, fun _ _ => rfl, fun j h1 h2 => by omega⟩) (Nat.lt_succ_self _) _ _ _ hP hD hS (lv_sub hl [1, 2, 0] rfl)
  clear hP hD hS hl
  intro fu1
  induction fu1 with
  | zero => intro i hh ww ff tt kk hi htt hI hfu; exact absurd hfu (Nat.not_lt_zero _)
  | succ fu1 ih1 =>
    intro i hh ww ff tt kk hi htt hI hfu1 H locs ls hP hD hS hl
    refine lv_iload_n hx hb dX2_tryNonces_14 rfl (lv_at hl 2 rfl) ?_
    refine lv_iload_n hx hb dX2_tryNonces_15 rfl (lv_at hl 1 rfl) ?_
    refine cmp_ge hx hb i q 104 (by omega) (by omega) dX2_tryNonces_16 (by decide) (fun c16 => ?_) (fun c16 => ?_)
    · exact ret 104 _ _ _ (mu_2, hh, ww, ff, tt, kk) dX2_tryNonces_104 (by rw [show q = i by omega]; rcases hI with h | ⟨v, h1, h2, h⟩; exact Or.inl h; exact Or.inr ⟨v, h1, by omega, h⟩) hP hD hS
    · refine lv_aload_n hx hb dX2_tryNonces_19 rfl (lv_at hl 0 rfl) ?_
      refine va_get (D := G.1) (ci := 2) (v := .int kk) (C := RX2) (T := TX2) (N := 14) hx hb hts hiX2 hown hK hP 0 rfl rfl 10 (by decide) lk58 (fun _ h9 => h9) rfl dX2_tryNonces_20 ?_
      refine lv_iconst (v := (-1)) hx hb dX2_tryNonces_23 (by decide) ?_
      refine lv_icmp_ne (tgt := 104) hx hb dX2_tryNonces_24 (by decide) (fun c24 => ?_) (fun c24 => ?_)
      · exact ret 104 _ _ _ (mu_2, hh, ww, ff, tt, kk) dX2_tryNonces_104 (by rcases hI with ⟨h0, _⟩ | h; exact absurd h0 c24; exact Or.inr h) hP hD hS
      · obtain ⟨e1, e2, e3, e4⟩ : tt = t + i ∧ (∀ j, j < 25 → ff j = fr j) ∧ (∀ j, t ≤ j → j < t + i → p_nz fr j < z) ∧ True := by
          rcases hI with ⟨_, h1, h2, h3⟩ | ⟨v, h1, h2, h3, h4, h5, h6⟩
          · exact ⟨h1, h2, h3, trivial⟩
          · exact absurd (h5.symm.trans c24) (nI_m1 (by omega))
        subst e1
        clear hI
        have hP : va_P G.1 vwCl (wC G a mu_2 hh ww fb fc fd ff fp n k z (t + i) kk pl lf pn) H := hP
        have hD : va_D A (wC G a mu_2 hh ww fb fc fd ff fp n k z (t + i) kk pl lf pn) := hD
        refine lv_aload_n hx hb dX2_tryNonces_27 rfl (lv_at hl 0 rfl) ?_
        refine va_get (D := G.1) (ci := 2) (v := .ref (a 9)) (C := RX2) (T := TX2) (N := 14) hx hb hts hiX2 hown hK hP 0 rfl rfl 4 (by decide) lk30 (fun _ h9 => h9) rfl dX2_tryNonces_28 ?_
        refine lv_bipush (v := nI 25) hx hb dX2_tryNonces_31 (by decide) ?_
        refine lv_aload_n hx hb dX2_tryNonces_33 rfl (lv_at hl 0 rfl) ?_
        refine va_get (D := G.1) (ci := 2) (v := .int (nI (t + i))) (C := RX2) (T := TX2) (N := 14) hx hb hts hiX2 hown hK hP 0 rfl rfl 9 (by decide) lk55 (fun _ h9 => h9) rfl dX2_tryNonces_34 ?_
        refine wr_i hx hb hK hP hD hS 9 rfl 25 (by omega) (by omega) dX2_tryNonces_37 (fun H locs hP hD hS => ?_)
        have hP : va_P G.1 vwCl (wC G a mu_2 hh ww fb fc fd (upd ff 25 (nI (t + i))) fp n k z (t + i) kk pl lf pn) H := hP
        have hD : va_D A (wC G a mu_2 hh ww fb fc fd (upd ff 25 (nI (t + i))) fp n k z (t + i) kk pl lf pn) := hD
        refine lv_aload_n hx hb dX2_tryNonces_38 rfl (lv_at hl 0 rfl) ?_
        refine lv_dup hx hb dX2_tryNonces_39 rfl ?_
        refine va_get (D := G.1) (ci := 2) (v := .int (nI (t + i))) (C := RX2) (T := TX2) (N := 14) hx hb hts hiX2 hown hK hP 0 rfl rfl 9 (by decide) lk55 (fun _ h9 => h9) rfl dX2_tryNonces_40 ?_
        refine lv_iconst (v := nI 1) hx hb dX2_tryNonces_43 (by decide) ?_
        refine ad_N hx hb (t + i) 1 dX2_tryNonces_44 ?_
        refine va_put (D := G.1) (ci := 2) (v := .int (nI ((t + i) + 1))) (ty := .int) (C := RX2) (T := TX2) (N := 14) hx hb hts hiX2 tyX2 tyX2_ok nmX2 hown hK hP hD hS 0 rfl rfl 9 (by decide) lk55 (fun _ h9 => h9) rfl (by decide +kernel) rfl rfl (Nat.le_of_ble_eq_true rfl) dX2_tryNonces_45 (fun H locs hP hD hS => ?_)
        have hP : va_P G.1 vwCl (wC G a mu_2 hh ww fb fc fd (upd ff 25 (nI (t + i))) fp n k z ((t + i) + 1) kk pl lf pn) H := hP
        have hD : va_D A (wC G a mu_2 hh ww fb fc fd (upd ff 25 (nI (t + i))) fp n k z ((t + i) + 1) kk pl lf pn) := hD
        refine lv_aload_n hx hb dX2_tryNonces_48 rfl (lv_at hl 0 rfl) ?_
        refine va_get (D := G.1) (ci := 2) (v := .ref (a 1)) (C := RX2) (T := TX2) (N := 14) hx hb hts hiX2 hown hK hP 0 rfl rfl 0 (by decide) lk10 (fun _ h9 => h9) rfl dX2_tryNonces_49 ?_
        refine lv_aload_n hx hb dX2_tryNonces_52 rfl (lv_at hl 0 rfl) ?_
        refine va_get (D := G.1) (ci := 2) (v := .ref (a 9)) (C := RX2) (T := TX2) (N := 14) hx hb hts hiX2 hown hK hP 0 rfl rfl 4 (by decide) lk30 (fun _ h9 => h9) rfl dX2_tryNonces_53 ?_
        refine lv_iconst (v := nI 0) hx hb dX2_tryNonces_56 (by decide) ?_
        refine call_Vv (wr := ([(a 0, .inr (2, [.ref (a 1), .ref (a 5), .ref (a 7), .ref (a 8), .ref (a 9), .ref (a 10), .int (nI n), .int (nI k), .int (nI z), .int (nI ((t + i) + 1)), .int kk, .int (nI pl), .int (nI lf), .int (nI pn)])), (a 5, .inr (0, [.ref (a 6)])), (a 6, .inl (G.2.2.1, 32, .inl fb)), (a 7, .inl (G.2.2.1, 2040, .inl fc)), (a 8, .inl (G.2.2.1, 8, .inl fd)), (a 10, .inl (G.2.2.1, 1560, .inl fp))] : va_W)) [.ref (a 9), .int (nI 0)] [] ⟨hx, hb, hml, hown, hts⟩ hK hX hA hP hD hS (c_takeRest l G _ (a 1) (a 2) (a 3) (a 4) (a 9) 34 0 mu_2 hh ww (upd ff 25 (nI (t + i))) (by omega) (by omega)) (cwV 2 hts gX2_tryNonces_X1_takeRest rfl rfl rfl (by decide +kernel) ⟨Nat.le_of_ble_eq_true rfl, Nat.le_of_ble_eq_true rfl⟩) 1 1 rfl rfl rfl [1, 2, 3, 4, 9] [0, 5, 6, 7, 8, 10] rfl rfl (by decide) (by decide) (by decide) rfl hl.1 (Nat.le_of_ble_eq_true rfl) dX2_tryNonces_57 ⟨Nat.zero_le _, Nat.zero_le _⟩ (fun u H locs hw hP hD hS => ?_)
        obtain ⟨yu_6, wu_6⟩ := u
        have hu_6 : ∀ j, j < 8 → yu_6 j = p_mix mu_2 (p_b2 (upd ff 25 (nI (t + i))) 0) j := hw
        have hP : va_P G.1 vwCl (wC G a mu_2 yu_6 wu_6 fb fc fd (upd ff 25 (nI (t + i))) fp n k z ((t + i) + 1) kk pl lf pn) H := hP.sub [0, 6, 7, 8, 9, 1, 2, 3, 4, 10, 5] rfl
        have hD : va_D A (wC G a mu_2 yu_6 wu_6 fb fc fd (upd ff 25 (nI (t + i))) fp n k z ((t + i) + 1) kk pl lf pn) := hD.sub [0, 6, 7, 8, 9, 1, 2, 3, 4, 10, 5] (by decide) rfl
        have hqu_6 : ∀ j, j < 8 → yu_6 j = p_hash (upd fr 25 (nI (t + i))) 0 j := fun j hj => (hu_6 j hj).trans (nz_eq (nI (t + i)) hu_2 e2 j hj)
        have hzu_6 : p_zeros yu_6 = p_nz fr (t + i) := p_zeros_congr hqu_6
        have hzl := p_zeros_le yu_6
        refine lv_aload_n hx hb dX2_tryNonces_60 rfl (lv_at hl 0 rfl) ?_
        refine va_get (D := G.1) (ci := 2) (v := .ref (a 1)) (C := RX2) (T := TX2) (N := 14) hx hb hts hiX2 hown hK hP 0 rfl rfl 0 (by decide) lk10 (fun _ h9 => h9) rfl dX2_tryNonces_61 ?_
        refine call_Vi (wr := ([(a 0, .inr (2, [.ref (a 1), .ref (a 5), .ref (a 7), .ref (a 8), .ref (a 9), .ref (a 10), .int (nI n), .int (nI k), .int (nI z), .int (nI ((t + i) + 1)), .int kk, .int (nI pl), .int (nI lf), .int (nI pn)])), (a 2, .inl (G.2.2.1, 8, .inl mu_2)), (a 4, .inl (G.2.2.1, 64, .inl wu_6)), (a 5, .inr (0, [.ref (a 6)])), (a 6, .inl (G.2.2.1, 32, .inl fb)), (a 7, .inl (G.2.2.1, 2040, .inl fc)), (a 8, .inl (G.2.2.1, 8, .inl fd)), (a 9, .inl (G.2.2.1, 34, .inl (upd ff 25 (nI (t + i))))), (a 10, .inl (G.2.2.1, 1560, .inl fp))] : va_W)) [] [] ⟨hx, hb, hml, hown, hts⟩ hK hX hA hP hD hS (c_zeros l G _ (a 1) (a 2) (a 3) (a 4) yu_6) (cwV 0 hts gX2_tryNonces_X1_zeros rfl rfl rfl (by decide +kernel) ⟨Nat.le_of_ble_eq_true rfl, Nat.le_of_ble_eq_true rfl⟩) 1 1 rfl rfl rfl [1, 3] [0, 2, 4, 5, 6, 7, 8, 9, 10] rfl rfl (by decide) (by decide) (by decide) rfl hl.1 (Nat.le_of_ble_eq_true rfl) dX2_tryNonces_64 ⟨Nat.zero_le _, Nat.zero_le _⟩ (fun r_7 u H locs hw hP hD hS => ?_)
        obtain rfl := hw
        have hP : va_P G.1 vwCl (wC G a mu_2 yu_6 wu_6 fb fc fd (upd ff 25 (nI (t + i))) fp n k z ((t + i) + 1) kk pl lf pn) H := hP.sub [0, 9, 1, 10, 2, 3, 4, 5, 6, 7, 8] rfl
        have hD : va_D A (wC G a mu_2 yu_6 wu_6 fb fc fd (upd ff 25 (nI (t + i))) fp n k z ((t + i) + 1) kk pl lf pn) := hD.sub [0, 9, 1, 10, 2, 3, 4, 5, 6, 7, 8] (by decide) rfl
        refine lv_aload_n hx hb dX2_tryNonces_67 rfl (lv_at hl 0 rfl) ?_
        refine va_get (D := G.1) (ci := 2) (v := .int (nI z)) (C := RX2) (T := TX2) (N := 14) hx hb hts hiX2 hown hK hP 0 rfl rfl 8 (by decide) lk52 (fun _ h9 => h9) rfl dX2_tryNonces_68 ?_
        refine cmp_lt hx hb (p_zeros yu_6) z 98 (by omega) (by omega) dX2_tryNonces_71 (by decide) (fun c71 => ?_) (fun c71 => ?_)
        · refine lv_iinc (v := nI (i + 1)) (lv' := [(2, .int (nI (i + 1))), (0, .ref (a 0)), (1, .int (nI q))]) hx hb dX2_tryNonces_98 hl (k := 2) rfl (inc_N i 1) (by decide) rfl (fun ls hl => ?_)
          refine lv_goto (tgt := 14) hx hb dX2_tryNonces_101 (by decide) ?_
          exact ih1 (i + 1) yu_6 wu_6 (upd ff 25 (nI (t + i))) (t + i + 1) kk (by omega) (by omega) (Or.inl ⟨c24, by omega, fun j hj => by rw [pk_un (by omega)]; exact e2 j hj, fun j h1 h2 => by rcases Nat.lt_or_ge j (t + i) with q1 | q1; exact e3 j h1 q1; rw [show j = t + i by omega, ← hzu_6]; exact c71⟩) (by omega) _ _ _ hP hD hS (lv_sub hl [1, 2, 0] rfl)
        · refine lv_aload_n hx hb dX2_tryNonces_74 rfl (lv_at hl 0 rfl) ?_
          refine lv_aload_n hx hb dX2_tryNonces_75 rfl (lv_at hl 0 rfl) ?_
          refine va_get (D := G.1) (ci := 2) (v := .ref (a 9)) (C := RX2) (T := TX2) (N := 14) hx hb hts hiX2 hown hK hP 0 rfl rfl 4 (by decide) lk30 (fun _ h9 => h9) rfl dX2_tryNonces_76 ?_
          refine lv_bipush (v := nI 25) hx hb dX2_tryNonces_79 (by decide) ?_
          refine rd_i hx hb hK hP 9 rfl 25 (by omega) (by omega) dX2_tryNonces_81 ?_
          refine top_i (nI (t + i)) pk_us ?_
          refine va_put (D := G.1) (ci := 2) (v := .int (nI (t + i))) (ty := .int) (C := RX2) (T := TX2) (N := 14) hx hb hts hiX2 tyX2 tyX2_ok nmX2 hown hK hP hD hS 0 rfl rfl 10 (by decide) lk58 (fun _ h9 => h9) rfl (by decide +kernel) rfl rfl (Nat.le_of_ble_eq_true rfl) dX2_tryNonces_82 (fun H locs hP hD hS => ?_)
          have hP : va_P G.1 vwCl (wC G a mu_2 yu_6 wu_6 fb fc fd (upd ff 25 (nI (t + i))) fp n k z ((t + i) + 1) (nI (t + i)) pl lf pn) H := hP
          have hD : va_D A (wC G a mu_2 yu_6 wu_6 fb fc fd (upd ff 25 (nI (t + i))) fp n k z ((t + i) + 1) (nI (t + i)) pl lf pn) := hD
          refine lv_aload_n hx hb dX2_tryNonces_85 rfl (lv_at hl 0 rfl) ?_
          refine va_get (D := G.1) (ci := 2) (v := .ref (a 1)) (C := RX2) (T := TX2) (N := 14) hx hb hts hiX2 hown hK hP 0 rfl rfl 0 (by decide) lk10 (fun _ h9 => h9) rfl dX2_tryNonces_86 ?_
          refine lv_aload_n hx hb dX2_tryNonces_89 rfl (lv_at hl 0 rfl) ?_
          refine va_get (D := G.1) (ci := 2) (v := .ref (a 9)) (C := RX2) (T := TX2) (N := 14) hx hb hts hiX2 hown hK hP 0 rfl rfl 4 (by decide) lk30 (fun _ h9 => h9) rfl dX2_tryNonces_90 ?_
          refine lv_bipush (v := nI 26) hx hb dX2_tryNonces_93 (by decide) ?_
          refine call_Vv (wr := ([(a 0, .inr (2, [.ref (a 1), .ref (a 5), .ref (a 7), .ref (a 8), .ref (a 9), .ref (a 10), .int (nI n), .int (nI k), .int (nI z), .int (nI ((t + i) + 1)), .int (nI (t + i)), .int (nI pl), .int (nI lf), .int (nI pn)])), (a 2, .inl (G.2.2.1, 8, .inl mu_2)), (a 4, .inl (G.2.2.1, 64, .inl wu_6)), (a 5, .inr (0, [.ref (a 6)])), (a 6, .inl (G.2.2.1, 32, .inl fb)), (a 7, .inl (G.2.2.1, 2040, .inl fc)), (a 8, .inl (G.2.2.1, 8, .inl fd)), (a 10, .inl (G.2.2.1, 1560, .inl fp))] : va_W)) [.ref (a 9), .int (nI 26)] [] ⟨hx, hb, hml, hown, hts⟩ hK hX hA hP hD hS (c_copyTo l G _ (a 1) (a 2) (a 3) (a 4) (a 9) 34 26 yu_6 (upd ff 25 (nI (t + i))) (by omega) (by omega)) (cwV 2 hts gX2_tryNonces_X1_copyTo rfl rfl rfl (by decide +kernel) ⟨Nat.le_of_ble_eq_true rfl, Nat.le_of_ble_eq_true rfl⟩) 1 1 rfl rfl rfl [1, 3, 9] [0, 2, 4, 5, 6, 7, 8, 10] rfl rfl (by decide) (by decide) (by decide) rfl hl.1 (Nat.le_of_ble_eq_true rfl) dX2_tryNonces_95 ⟨Nat.zero_le _, Nat.zero_le _⟩ (fun u H locs hw hP hD hS => ?_)
          have hP : va_P G.1 vwCl (wC G a mu_2 yu_6 wu_6 fb fc fd (va_cpy yu_6 (upd ff 25 (nI (t + i))) 0 26 8) fp n k z ((t + i) + 1) (nI (t + i)) pl lf pn) H := hP.sub [0, 8, 1, 9, 2, 3, 4, 5, 6, 10, 7] rfl
          have hD : va_D A (wC G a mu_2 yu_6 wu_6 fb fc fd (va_cpy yu_6 (upd ff 25 (nI (t + i))) 0 26 8) fp n k z ((t + i) + 1) (nI (t + i)) pl lf pn) := hD.sub [0, 8, 1, 9, 2, 3, 4, 5, 6, 10, 7] (by decide) rfl
          refine lv_iinc (v := nI (i + 1)) (lv' := [(2, .int (nI (i + 1))), (0, .ref (a 0)), (1, .int (nI q))]) hx hb dX2_tryNonces_98 hl (k := 2) rfl (inc_N i 1) (by decide) rfl (fun ls hl => ?_)
          refine lv_goto (tgt := 14) hx hb dX2_tryNonces_101 (by decide) ?_
          exact ih1 (i + 1) yu_6 wu_6 (va_cpy yu_6 (upd ff 25 (nI (t + i))) 0 26 8) (t + i + 1) (nI (t + i)) (by omega) (by omega) (Or.inr ⟨t + i, by omega, by omega, e3, by rw [← hzu_6]; exact c71, rfl, rfl, fun j hj => by rw [pk_cpy_out (by omega)]; by_cases q1 : j = 25; rw [q1, pk_us, pk_us]; rw [pk_un q1, pk_un q1]; exact e2 j (by omega), fun j hj => by rw [pk_cpy_in (by omega) (by omega), show 0 + (26 + j - 26) = j by omega]; exact hqu_6 j hj⟩) (by omega) _ _ _ hP hD hS (lv_sub hl [1, 2, 0] rfl)
set_option maxHeartbeats 4000000 in
set_option maxRecDepth 100000 in
theorem c_mine (l : Launch) (G : gG) (sz : Nat) (a : Nat → Nat) (fm fh fw fb fc fd fr fp : Nat → Int32) (n k z t : Nat) (kn : Int32) (pl lf pn : Nat) (x : Int32) (hn : n ≤ 60) (hk : k ≤ 8) (hz : z ≤ 20) (ht : t ≤ 100000) (hpl : pl ≤ 60) (hlf : lf ≤ 6) (hpn : pn ≤ 1560)  : MetI l yX2_mine wsX2_mine ({ frames := 5, cells := 0, slots := 0, locals := 121 } : Room) [.ref (a 0), .int x] G (wC G a fm fh fw fb fc fd fr fp n k z t kn pl lf pn) sz (fun u : (Nat → Int32) × (Nat → Int32) × (Nat → Int32) × (Nat → Int32) × Nat × Int32 => wC G a u.1 u.2.1 u.2.2.1 fb fc fd u.2.2.2.1 fp n k z u.2.2.2.2.1 u.2.2.2.2.2 pl lf pn) (fun r u => q_mine fc fr n k z t kn x r u.2.2.2.1 u.2.2.2.2.1 u.2.2.2.2.2) := by
  refine ent_i _ cX2_mine 2 RX2 (by decide) rfl rfl (Nat.le_of_ble_eq_true rfl) ?_
  intro p e s m args below meth c A Q ls hx hb hml hts hown hA hK hX ret hl hP hD hS
  have hl : lv_has ls 2 [(0, .ref (a 0)), (1, .int x)] := hl
  have lk55 := hts (.fieldLink RX2 55 "MinedLedger" "triedCount" "I") (by decide +kernel)
  have lk58 := hts (.fieldLink RX2 58 "MinedLedger" "keptNonce" "I") (by decide +kernel)
  have hiX2 : ∀ w ∈ wsX20, w ∈ wsX2_mine := by decide +kernel
  refine lv_iload_n hx hb dX2_mine_0 rfl (lv_at hl 1 rfl) ?_
  refine lv_iconst (v := nI 1) hx hb dX2_mine_1 (by decide) ?_
  refine cmz_ltzn hx hb x 1 12 (by omega) dX2_mine_2 (by decide) (fun c2 => ?_) (fun c2 => ?_)
  · refine lv_bipush (v := (-2)) hx hb dX2_mine_12 (by decide) ?_
    exact ret 14 _ _ _ (-2) (fm, fh, fw, fr, t, kn) dX2_mine_14 (Or.inl ⟨Or.inl c2, rfl, rfl, rfl, rfl⟩) hP hD hS
  · refine lv_iload_n hx hb dX2_mine_5 rfl (lv_at hl 1 rfl) ?_
    refine lv_sipush (v := nI 3000) hx hb dX2_mine_6 (by decide) ?_
    refine cmz_lezn hx hb x 3000 15 (by omega) dX2_mine_9 (by decide) (fun c9 => ?_) (fun c9 => ?_)
    · refine lv_aload_n hx hb dX2_mine_15 rfl (lv_at hl 0 rfl) ?_
      refine va_get (D := G.1) (ci := 2) (v := .int kn) (C := RX2) (T := TX2) (N := 14) hx hb hts hiX2 hown hK hP 0 rfl rfl 10 (by decide) lk58 (fun _ h9 => h9) rfl dX2_mine_16 ?_
      refine lv_iconst (v := (-1)) hx hb dX2_mine_19 (by decide) ?_
      refine lv_icmp_eq (tgt := 28) hx hb dX2_mine_20 (by decide) (fun c20 => ?_) (fun c20 => ?_)
      · refine lv_aload_n hx hb dX2_mine_28 rfl (lv_at hl 0 rfl) ?_
        refine va_get (D := G.1) (ci := 2) (v := .int (nI t)) (C := RX2) (T := TX2) (N := 14) hx hb hts hiX2 hown hK hP 0 rfl rfl 9 (by decide) lk55 (fun _ h9 => h9) rfl dX2_mine_29 ?_
        refine lv_ldc (v := 100000) hx hb hown (hts (.constant RX2 77 (100000)) (by decide +kernel)) dX2_mine_32 ?_
        refine top_i (nI 100000) (by decide) ?_
        refine cmp_lt hx hb t 100000 40 (by omega) (by omega) dX2_mine_34 (by decide) (fun c34 => ?_) (fun c34 => ?_)
        · have hP : va_P G.1 vwCl (wC G a fm fh fw fb fc fd fr fp n k z t (-1) pl lf pn) s.heap := by rw [← c20]; exact hP
          have hD : va_D A (wC G a fm fh fw fb fc fd fr fp n k z t (-1) pl lf pn) := by rw [← c20]; exact hD
          obtain ⟨q, hq, rfl⟩ := of_nn (x := x) (by omega)
          rw [tI_N hq] at c2 c9
          refine lv_aload_n hx hb dX2_mine_40 rfl (lv_at hl 0 rfl) ?_
          refine call_Vv (wr := ([] : va_W)) [] [] ⟨hx, hb, hml, hown, hts⟩ hK hX hA hP hD hS (c_fillDraft l G _ a fm fh fw fb fc fd fr fp n k z t (-1) pl lf pn  (by omega) (by omega) (by omega) (by omega) (by omega) (by omega) (by omega)) (cwV 0 hts gX2_mine_X2_fillDraft rfl rfl rfl (by decide +kernel) ⟨Nat.le_of_ble_eq_true rfl, Nat.le_of_ble_eq_true rfl⟩) 2 0 rfl rfl rfl [0, 1, 2, 3, 4, 5, 6, 7, 8, 9, 10] [] rfl rfl (by decide) (by decide) (by decide) rfl hl.1 (Nat.le_of_ble_eq_true rfl) dX2_mine_41 ⟨Nat.zero_le _, Nat.zero_le _⟩ (fun u H locs hw hP hD hS => ?_)
          have hP : va_P G.1 vwCl (wC G a fm fh fw fb fc fd (p_drf fc fr n k z) fp n k z t (-1) pl lf pn) H := hP
          have hD : va_D A (wC G a fm fh fw fb fc fd (p_drf fc fr n k z) fp n k z t (-1) pl lf pn) := hD
          refine lv_aload_n hx hb dX2_mine_44 rfl (lv_at hl 0 rfl) ?_
          refine lv_iload_n hx hb dX2_mine_45 rfl (lv_at hl 1 rfl) ?_
          refine lv_ldc (v := 100000) hx hb hown (hts (.constant RX2 77 (100000)) (by decide +kernel)) dX2_mine_46 ?_
          refine top_i (nI 100000) (by decide) ?_
          refine lv_aload_n hx hb dX2_mine_48 rfl (lv_at hl 0 rfl) ?_
          refine va_get (D := G.1) (ci := 2) (v := .int (nI t)) (C := RX2) (T := TX2) (N := 14) hx hb hts hiX2 hown hK hP 0 rfl rfl 9 (by decide) lk55 (fun _ h9 => h9) rfl dX2_mine_49 ?_
          refine su_N hx hb 100000 t (by omega) dX2_mine_52 ?_
          refine va_mmin (x := nI q) (y := nI (100000 - t)) hx hb (by rw [hml]; exact hl.1.symm) hown (hts (.methodLink RX2 43 Lib.Math.min.name) (by decide +kernel)) (hts (.static Lib.Math.min.name) (by decide +kernel)) (hts (.initialized "java/lang/Math") (by decide +kernel)) (hts (.code Lib.Math.min.name Lib.Math.min.code 2 (some .int)) (by decide +kernel)) (Nat.le_of_ble_eq_true rfl) (Nat.le_of_ble_eq_true rfl) (Nat.zero_le _) (Nat.zero_le _) dX2_mine_53 ?_
          refine top_i (nI (min q (100000 - t))) (min_N (by omega) (by omega)) ?_
          refine call_Vv (wr := ([] : va_W)) [.int (nI (min q (100000 - t)))] [] ⟨hx, hb, hml, hown, hts⟩ hK hX hA hP hD hS (c_tryNonces l G _ a fm fh fw fb fc fd (p_drf fc fr n k z) fp n k z t pl lf pn (min q (100000 - t)) (by omega) (by omega) (by omega) (by omega) (by omega) (by omega) (by omega) (by omega)) (cwV 1 hts gX2_mine_X2_tryNonces rfl rfl rfl (by decide +kernel) ⟨Nat.le_of_ble_eq_true rfl, Nat.le_of_ble_eq_true rfl⟩) 2 0 rfl rfl rfl [0, 1, 2, 3, 4, 5, 6, 7, 8, 9, 10] [] rfl rfl (by decide) (by decide) (by decide) rfl hl.1 (Nat.le_of_ble_eq_true rfl) dX2_mine_56 ⟨Nat.zero_le _, Nat.zero_le _⟩ (fun u H locs hw hP hD hS => ?_)
          obtain ⟨mu_7, yu_7, wu_7, fu_7, tu_7, ku_7⟩ := u
          have hu_7 : q_try (p_drf fc fr n k z) z t (min q (100000 - t)) fu_7 tu_7 ku_7 := hw
          have hP : va_P G.1 vwCl (wC G a mu_7 yu_7 wu_7 fb fc fd fu_7 fp n k z tu_7 ku_7 pl lf pn) H := hP
          have hD : va_D A (wC G a mu_7 yu_7 wu_7 fb fc fd fu_7 fp n k z tu_7 ku_7 pl lf pn) := hD
          refine lv_aload_n hx hb dX2_mine_59 rfl (lv_at hl 0 rfl) ?_
          refine va_get (D := G.1) (ci := 2) (v := .int ku_7) (C := RX2) (T := TX2) (N := 14) hx hb hts hiX2 hown hK hP 0 rfl rfl 10 (by decide) lk58 (fun _ h9 => h9) rfl dX2_mine_60 ?_
          exact ret 63 _ _ _ ku_7 (mu_7, yu_7, wu_7, fu_7, tu_7, ku_7) dX2_mine_63 (Or.inr ⟨⟨by rw [tI_N hq]; exact c2, by rw [tI_N hq]; exact c9⟩, Or.inr ⟨c20, Or.inr ⟨c34, q, rfl, hu_7, rfl⟩⟩⟩) hP hD hS
        · refine lv_bipush (v := (-3)) hx hb dX2_mine_37 (by decide) ?_
          exact ret 39 _ _ _ (-3) (fm, fh, fw, fr, t, kn) dX2_mine_39 (Or.inr ⟨⟨c2, c9⟩, Or.inr ⟨c20, Or.inl ⟨c34, rfl, rfl, rfl, rfl⟩⟩⟩) hP hD hS
      · refine lv_aload_n hx hb dX2_mine_23 rfl (lv_at hl 0 rfl) ?_
        refine va_get (D := G.1) (ci := 2) (v := .int kn) (C := RX2) (T := TX2) (N := 14) hx hb hts hiX2 hown hK hP 0 rfl rfl 10 (by decide) lk58 (fun _ h9 => h9) rfl dX2_mine_24 ?_
        exact ret 27 _ _ _ kn (fm, fh, fw, fr, t, kn) dX2_mine_27 (Or.inr ⟨⟨c2, c9⟩, Or.inl ⟨c20, rfl, rfl, rfl, rfl⟩⟩) hP hD hS
    · refine lv_bipush (v := (-2)) hx hb dX2_mine_12 (by decide) ?_
      exact ret 14 _ _ _ (-2) (fm, fh, fw, fr, t, kn) dX2_mine_14 (Or.inl ⟨Or.inr c9, rfl, rfl, rfl, rfl⟩) hP hD hS
set_option maxHeartbeats 4000000 in
set_option maxRecDepth 100000 in
theorem c_addToFilter (l : Launch) (G : gG) (sz : Nat) (a : Nat → Nat) (fm fh fw fb fc fd fr fp : Nat → Int32) (n k z t : Nat) (kn : Int32) (pl lf pn : Nat) (y : Nat) (hn : n ≤ 60) (hk : k ≤ 8) (hz : z ≤ 20) (ht : t ≤ 100000) (hpl : pl ≤ 60) (hlf : lf ≤ 6) (hpn : pn ≤ 1560) (hy : y < n) : MetV l yX2_addToFilter wsX2_addToFilter ({ frames := 4, cells := 0, slots := 0, locals := 88 } : Room) [.ref (a 0), .int (nI y)] G (wC G a fm fh fw fb fc fd fr fp n k z t kn pl lf pn) sz (fun _ : Unit => wC G a fm fh fw (p_addN fb fc (y * 34 + 16) 8) fc fd fr fp n k z t kn pl lf pn) (fun _ => True) := by
  refine ent_v _ cX2_addToFilter 4 RX2 (by decide) rfl rfl (Nat.le_of_ble_eq_true rfl) ?_
  intro p e s m args below meth c A Q ls hx hb hml hts hown hA hK hX ret hl hP hD hS
  have hl : lv_has ls 4 [(0, .ref (a 0)), (1, .int (nI y))] := hl
  have lk19 := hts (.fieldLink RX2 19 "MinedLedger" "filter" "LMinedLedger$Filter;") (by decide +kernel)
  have lk23 := hts (.fieldLink RX2 23 "MinedLedger" "cells" "[I") (by decide +kernel)
  have hiX2 : ∀ w ∈ wsX20, w ∈ wsX2_addToFilter := by decide +kernel
  refine lv_iload_n hx hb dX2_addToFilter_0 rfl (lv_at hl 1 rfl) ?_
  refine lv_bipush (v := nI 34) hx hb dX2_addToFilter_1 (by decide) ?_
  refine mu_N hx hb y 34 dX2_addToFilter_3 ?_
  refine lv_bipush (v := nI 16) hx hb dX2_addToFilter_4 (by decide) ?_
  refine ad_N hx hb (y * 34) 16 dX2_addToFilter_6 ?_
  refine lv_istore_n (lv' := [(2, .int (nI ((y * 34) + 16))), (0, .ref (a 0)), (1, .int (nI y))]) hx hb dX2_addToFilter_7 rfl hl (by decide) rfl (fun ls hl => ?_)
  refine lv_iconst (v := nI 0) hx hb dX2_addToFilter_8 (by decide) ?_
  refine lv_istore_n (lv' := [(3, .int (nI 0)), (2, .int (nI ((y * 34) + 16))), (0, .ref (a 0)), (1, .int (nI y))]) hx hb dX2_addToFilter_9 rfl hl (by decide) rfl (fun ls hl => ?_)
  suffices hloop1 : ∀ (fu1 : Nat) (i : Nat), (i ≤ 8) → 8 - i < fu1 → ∀ (H : Heap) (locs : List Loc) (ls : Array Slot), va_P G.1 vwCl (wC G a fm fh fw (p_addN fb fc (y * 34 + 16) i) fc fd fr fp n k z t kn pl lf pn) H → va_D A (wC G a fm fh fw (p_addN fb fc (y * 34 + 16) i) fc fd fr fp n k z t kn pl lf pn) → va_S A s.heap H locs → lv_has ls 4 [(0, .ref (a 0)), (1, .int (nI y)), (2, .int (nI ((y * 34) + 16))), (3, .int (nI i))] → W p l e ({ frames := 4, cells := 0, slots := 0, locals := 88 } : Room) s m args below meth c H locs 0 0 Q (F0 m 10 ls []) from hloop1 _ 0 (Nat.zero_le _) (Nat.lt_succ_self _) _ _ _ hP hD hS (lv_sub hl [2, 3, 1, 0] rfl)
  clear hP hD hS hl
  intro fu1
  induction fu1 with
  | zero => intro i hi hfu; exact absurd hfu (Nat.not_lt_zero _)
  | succ fu1 ih1 =>
    intro i hi hfu1 H locs ls hP hD hS hl
    refine lv_iload_n hx hb dX2_addToFilter_10 rfl (lv_at hl 3 rfl) ?_
    refine lv_bipush (v := nI 8) hx hb dX2_addToFilter_11 (by decide) ?_
    refine cmp_ge hx hb i 8 37 (by omega) (by omega) dX2_addToFilter_13 (by decide) (fun c13 => ?_) (fun c13 => ?_)
    · have e37 : i = 8 := by omega
      subst e37
      exact ret 37 _ _ _ () dX2_addToFilter_37 (trivial) hP hD hS
    · refine lv_aload_n hx hb dX2_addToFilter_16 rfl (lv_at hl 0 rfl) ?_
      refine va_get (D := G.1) (ci := 2) (v := .ref (a 5)) (C := RX2) (T := TX2) (N := 14) hx hb hts hiX2 hown hK hP 0 rfl rfl 1 (by decide) lk19 (fun _ h9 => h9) rfl dX2_addToFilter_17 ?_
      refine lv_aload_n hx hb dX2_addToFilter_20 rfl (lv_at hl 0 rfl) ?_
      refine va_get (D := G.1) (ci := 2) (v := .ref (a 7)) (C := RX2) (T := TX2) (N := 14) hx hb hts hiX2 hown hK hP 0 rfl rfl 2 (by decide) lk23 (fun _ h9 => h9) rfl dX2_addToFilter_21 ?_
      refine lv_iload_n hx hb dX2_addToFilter_24 rfl (lv_at hl 2 rfl) ?_
      refine lv_iload_n hx hb dX2_addToFilter_25 rfl (lv_at hl 3 rfl) ?_
      refine ad_N hx hb ((y * 34) + 16) i dX2_addToFilter_26 ?_
      refine rd_i hx hb hK hP 7 rfl (((y * 34) + 16) + i) (by omega) (by omega) dX2_addToFilter_27 ?_
      refine call_Vv (wr := ([(a 0, .inr (2, [.ref (a 1), .ref (a 5), .ref (a 7), .ref (a 8), .ref (a 9), .ref (a 10), .int (nI n), .int (nI k), .int (nI z), .int (nI t), .int kn, .int (nI pl), .int (nI lf), .int (nI pn)])), (a 1, .inr (1, [.ref (a 2), .ref (a 3), .ref (a 4)])), (a 2, .inl (G.2.2.1, 8, .inl fm)), (a 3, .inl (G.2.2.1, 8, .inl fh)), (a 4, .inl (G.2.2.1, 64, .inl fw)), (a 7, .inl (G.2.2.1, 2040, .inl fc)), (a 8, .inl (G.2.2.1, 8, .inl fd)), (a 9, .inl (G.2.2.1, 34, .inl fr)), (a 10, .inl (G.2.2.1, 1560, .inl fp))] : va_W)) [.int (fc (((y * 34) + 16) + i))] [] ⟨hx, hb, hml, hown, hts⟩ hK hX hA hP hD hS (c_include l G _ (a 5) (a 6) (p_addN fb fc (y * 34 + 16) i) (fc (((y * 34) + 16) + i))) (cwV 1 hts gX2_addToFilter_X0_include rfl rfl rfl (by decide +kernel) ⟨Nat.le_of_ble_eq_true rfl, Nat.le_of_ble_eq_true rfl⟩) 0 5 rfl rfl rfl [5, 6] [0, 1, 2, 3, 4, 7, 8, 9, 10] rfl rfl (by decide) (by decide) (by decide) rfl hl.1 (Nat.le_of_ble_eq_true rfl) dX2_addToFilter_28 ⟨Nat.zero_le _, Nat.zero_le _⟩ (fun u H locs hw hP hD hS => ?_)
      have hP : va_P G.1 vwCl (wC G a fm fh fw (p_incN (p_addN fb fc (y * 34 + 16) i) (fc (((y * 34) + 16) + i)) 4) fc fd fr fp n k z t kn pl lf pn) H := hP.sub [0, 1, 2, 3, 4, 9, 10, 5, 6, 7, 8] rfl
      have hD : va_D A (wC G a fm fh fw (p_incN (p_addN fb fc (y * 34 + 16) i) (fc (((y * 34) + 16) + i)) 4) fc fd fr fp n k z t kn pl lf pn) := hD.sub [0, 1, 2, 3, 4, 9, 10, 5, 6, 7, 8] (by decide) rfl
      have hP : va_P G.1 vwCl (wC G a fm fh fw (p_addN fb fc (y * 34 + 16) (i + 1)) fc fd fr fp n k z t kn pl lf pn) H := hP
      have hD : va_D A (wC G a fm fh fw (p_addN fb fc (y * 34 + 16) (i + 1)) fc fd fr fp n k z t kn pl lf pn) := hD
      refine lv_iinc (v := nI (i + 1)) (lv' := [(3, .int (nI (i + 1))), (0, .ref (a 0)), (1, .int (nI y)), (2, .int (nI ((y * 34) + 16)))]) hx hb dX2_addToFilter_31 hl (k := 3) rfl (inc_N i 1) (by decide) rfl (fun ls hl => ?_)
      refine lv_goto (tgt := 10) hx hb dX2_addToFilter_34 (by decide) ?_
      exact ih1 (i + 1) (by omega) (by omega) _ _ _ hP hD hS (lv_sub hl [1, 2, 3, 0] rfl)
set_option maxHeartbeats 4000000 in
set_option maxRecDepth 100000 in
theorem c_remakeFilter (l : Launch) (G : gG) (sz : Nat) (a : Nat → Nat) (fm fh fw fb fc fd fr fp : Nat → Int32) (n k z t : Nat) (kn : Int32) (pl lf pn : Nat)  (hn : n ≤ 60) (hk : k ≤ 8) (hz : z ≤ 20) (ht : t ≤ 100000) (hpl : pl ≤ 60) (hlf : lf ≤ 6) (hpn : pn ≤ 1560)  : MetV l yX2_remakeFilter wsX2_remakeFilter ({ frames := 5, cells := 0, slots := 0, locals := 111 } : Room) [.ref (a 0)] G (wC G a fm fh fw fb fc fd fr fp n k z t kn pl lf pn) sz (fun _ : Unit => wC G a fm fh fw (p_remN fb fc n) fc fd fr fp n k z t kn pl lf pn) (fun _ => True) := by
  refine ent_v _ cX2_remakeFilter 2 RX2 (by decide) rfl rfl (Nat.le_of_ble_eq_true rfl) ?_
  intro p e s m args below meth c A Q ls hx hb hml hts hown hA hK hX ret hl hP hD hS
  have hl : lv_has ls 2 [(0, .ref (a 0))] := hl
  have lk19 := hts (.fieldLink RX2 19 "MinedLedger" "filter" "LMinedLedger$Filter;") (by decide +kernel)
  have lk36 := hts (.fieldLink RX2 36 "MinedLedger" "entryCount" "I") (by decide +kernel)
  have hiX2 : ∀ w ∈ wsX20, w ∈ wsX2_remakeFilter := by decide +kernel
  refine lv_aload_n hx hb dX2_remakeFilter_0 rfl (lv_at hl 0 rfl) ?_
  refine va_get (D := G.1) (ci := 2) (v := .ref (a 5)) (C := RX2) (T := TX2) (N := 14) hx hb hts hiX2 hown hK hP 0 rfl rfl 1 (by decide) lk19 (fun _ h9 => h9) rfl dX2_remakeFilter_1 ?_
  refine call_Vv (wr := ([(a 0, .inr (2, [.ref (a 1), .ref (a 5), .ref (a 7), .ref (a 8), .ref (a 9), .ref (a 10), .int (nI n), .int (nI k), .int (nI z), .int (nI t), .int kn, .int (nI pl), .int (nI lf), .int (nI pn)])), (a 1, .inr (1, [.ref (a 2), .ref (a 3), .ref (a 4)])), (a 2, .inl (G.2.2.1, 8, .inl fm)), (a 3, .inl (G.2.2.1, 8, .inl fh)), (a 4, .inl (G.2.2.1, 64, .inl fw)), (a 7, .inl (G.2.2.1, 2040, .inl fc)), (a 8, .inl (G.2.2.1, 8, .inl fd)), (a 9, .inl (G.2.2.1, 34, .inl fr)), (a 10, .inl (G.2.2.1, 1560, .inl fp))] : va_W)) [] [] ⟨hx, hb, hml, hown, hts⟩ hK hX hA hP hD hS (c_clear l G _ (a 5) (a 6) fb ) (cwV 0 hts gX2_remakeFilter_X0_clear rfl rfl rfl (by decide +kernel) ⟨Nat.le_of_ble_eq_true rfl, Nat.le_of_ble_eq_true rfl⟩) 0 5 rfl rfl rfl [5, 6] [0, 1, 2, 3, 4, 7, 8, 9, 10] rfl rfl (by decide) (by decide) (by decide) rfl hl.1 (Nat.le_of_ble_eq_true rfl) dX2_remakeFilter_4 ⟨Nat.zero_le _, Nat.zero_le _⟩ (fun u H locs hw hP hD hS => ?_)
  have hP : va_P G.1 vwCl (wC G a fm fh fw (p_fill fb 0 32 (nI 0)) fc fd fr fp n k z t kn pl lf pn) H := hP.sub [0, 1, 2, 3, 4, 9, 10, 5, 6, 7, 8] rfl
  have hD : va_D A (wC G a fm fh fw (p_fill fb 0 32 (nI 0)) fc fd fr fp n k z t kn pl lf pn) := hD.sub [0, 1, 2, 3, 4, 9, 10, 5, 6, 7, 8] (by decide) rfl
  refine lv_iconst (v := nI 0) hx hb dX2_remakeFilter_7 (by decide) ?_
  refine lv_istore_n (lv' := [(1, .int (nI 0)), (0, .ref (a 0))]) hx hb dX2_remakeFilter_8 rfl hl (by decide) rfl (fun ls hl => ?_)
  suffices hloop1 : ∀ (fu1 : Nat) (i : Nat), (i ≤ n) → n - i < fu1 → ∀ (H : Heap) (locs : List Loc) (ls : Array Slot), va_P G.1 vwCl (wC G a fm fh fw (p_remN fb fc i) fc fd fr fp n k z t kn pl lf pn) H → va_D A (wC G a fm fh fw (p_remN fb fc i) fc fd fr fp n k z t kn pl lf pn) → va_S A s.heap H locs → lv_has ls 2 [(0, .ref (a 0)), (1, .int (nI i))] → W p l e ({ frames := 5, cells := 0, slots := 0, locals := 111 } : Room) s m args below meth c H locs 0 0 Q (F0 m 9 ls []) from hloop1 _ 0 (Nat.zero_le _) (Nat.lt_succ_self _) _ _ _ hP hD hS (lv_sub hl [1, 0] rfl)
  clear hP hD hS hl
  intro fu1
  induction fu1 with
  | zero => intro i hi hfu; exact absurd hfu (Nat.not_lt_zero _)
  | succ fu1 ih1 =>
    intro i hi hfu1 H locs ls hP hD hS hl
    refine lv_iload_n hx hb dX2_remakeFilter_9 rfl (lv_at hl 1 rfl) ?_
    refine lv_aload_n hx hb dX2_remakeFilter_10 rfl (lv_at hl 0 rfl) ?_
    refine va_get (D := G.1) (ci := 2) (v := .int (nI n)) (C := RX2) (T := TX2) (N := 14) hx hb hts hiX2 hown hK hP 0 rfl rfl 6 (by decide) lk36 (fun _ h9 => h9) rfl dX2_remakeFilter_11 ?_
    refine cmp_ge hx hb i n 28 (by omega) (by omega) dX2_remakeFilter_14 (by decide) (fun c14 => ?_) (fun c14 => ?_)
    · have e28 : i = n := by omega
      subst e28
      exact ret 28 _ _ _ () dX2_remakeFilter_28 (trivial) hP hD hS
    · refine lv_aload_n hx hb dX2_remakeFilter_17 rfl (lv_at hl 0 rfl) ?_
      refine lv_iload_n hx hb dX2_remakeFilter_18 rfl (lv_at hl 1 rfl) ?_
      refine call_Vv (wr := ([] : va_W)) [.int (nI i)] [] ⟨hx, hb, hml, hown, hts⟩ hK hX hA hP hD hS (c_addToFilter l G _ a fm fh fw (p_remN fb fc i) fc fd fr fp n k z t kn pl lf pn i (by omega) (by omega) (by omega) (by omega) (by omega) (by omega) (by omega) (by omega)) (cwV 1 hts gX2_remakeFilter_X2_addToFilter rfl rfl rfl (by decide +kernel) ⟨Nat.le_of_ble_eq_true rfl, Nat.le_of_ble_eq_true rfl⟩) 2 0 rfl rfl rfl [0, 1, 2, 3, 4, 5, 6, 7, 8, 9, 10] [] rfl rfl (by decide) (by decide) (by decide) rfl hl.1 (Nat.le_of_ble_eq_true rfl) dX2_remakeFilter_19 ⟨Nat.zero_le _, Nat.zero_le _⟩ (fun u H locs hw hP hD hS => ?_)
      have hP : va_P G.1 vwCl (wC G a fm fh fw (p_addN (p_remN fb fc i) fc (i * 34 + 16) 8) fc fd fr fp n k z t kn pl lf pn) H := hP
      have hD : va_D A (wC G a fm fh fw (p_addN (p_remN fb fc i) fc (i * 34 + 16) 8) fc fd fr fp n k z t kn pl lf pn) := hD
      have hP : va_P G.1 vwCl (wC G a fm fh fw (p_remN fb fc (i + 1)) fc fd fr fp n k z t kn pl lf pn) H := hP
      have hD : va_D A (wC G a fm fh fw (p_remN fb fc (i + 1)) fc fd fr fp n k z t kn pl lf pn) := hD
      refine lv_iinc (v := nI (i + 1)) (lv' := [(1, .int (nI (i + 1))), (0, .ref (a 0))]) hx hb dX2_remakeFilter_22 hl (k := 1) rfl (inc_N i 1) (by decide) rfl (fun ls hl => ?_)
      refine lv_goto (tgt := 9) hx hb dX2_remakeFilter_25 (by decide) ?_
      exact ih1 (i + 1) (by omega) (by omega) _ _ _ hP hD hS (lv_sub hl [1, 0] rfl)
set_option maxHeartbeats 4000000 in
set_option maxRecDepth 100000 in
theorem c_hasWord (l : Launch) (G : gG) (sz : Nat) (a : Nat → Nat) (fm fh fw fb fc fd fr fp : Nat → Int32) (n k z t : Nat) (kn : Int32) (pl lf pn : Nat) (y : Nat) (x : Int32) (hn : n ≤ 60) (hk : k ≤ 8) (hz : z ≤ 20) (ht : t ≤ 100000) (hpl : pl ≤ 60) (hlf : lf ≤ 6) (hpn : pn ≤ 1560) (hy : y < n) : MetI l yX2_hasWord wsX2_hasWord ({ frames := 0, cells := 0, slots := 0, locals := 0 } : Room) [.ref (a 0), .int (nI y), .int x] G (wC G a fm fh fw fb fc fd fr fp n k z t kn pl lf pn) sz (fun _ : Unit => wC G a fm fh fw fb fc fd fr fp n k z t kn pl lf pn) (fun r _ => r = bI (p_hw fc x y)) := by
  refine ent_z _ cX2_hasWord 5 RX2 (by decide) rfl rfl (Nat.le_of_ble_eq_true rfl) ?_
  intro p e s m args below meth c A Q ls hx hb hml hts hown hA hK hX ret hl hP hD hS
  have hl : lv_has ls 5 [(0, .ref (a 0)), (1, .int (nI y)), (2, .int x)] := hl
  have lk23 := hts (.fieldLink RX2 23 "MinedLedger" "cells" "[I") (by decide +kernel)
  have hiX2 : ∀ w ∈ wsX20, w ∈ wsX2_hasWord := by decide +kernel
  refine lv_iload_n hx hb dX2_hasWord_0 rfl (lv_at hl 1 rfl) ?_
  refine lv_bipush (v := nI 34) hx hb dX2_hasWord_1 (by decide) ?_
  refine mu_N hx hb y 34 dX2_hasWord_3 ?_
  refine lv_bipush (v := nI 16) hx hb dX2_hasWord_4 (by decide) ?_
  refine ad_N hx hb (y * 34) 16 dX2_hasWord_6 ?_
  refine lv_istore_n (lv' := [(3, .int (nI ((y * 34) + 16))), (0, .ref (a 0)), (1, .int (nI y)), (2, .int x)]) hx hb dX2_hasWord_7 rfl hl (by decide) rfl (fun ls hl => ?_)
  refine lv_iconst (v := nI 0) hx hb dX2_hasWord_8 (by decide) ?_
  refine lv_istore (lv' := [(4, .int (nI 0)), (3, .int (nI ((y * 34) + 16))), (0, .ref (a 0)), (1, .int (nI y)), (2, .int x)]) hx hb dX2_hasWord_9 hl (by decide) rfl (fun ls hl => ?_)
  suffices hloop1 : ∀ (fu1 : Nat) (i : Nat), (i ≤ 8) → (∀ j, j < i → ¬ decide (fc (y * 34 + 16 + j) = x) = true) → 8 - i < fu1 → ∀ (H : Heap) (locs : List Loc) (ls : Array Slot), va_P G.1 vwCl (wC G a fm fh fw fb fc fd fr fp n k z t kn pl lf pn) H → va_D A (wC G a fm fh fw fb fc fd fr fp n k z t kn pl lf pn) → va_S A s.heap H locs → lv_has ls 5 [(0, .ref (a 0)), (1, .int (nI y)), (2, .int x), (3, .int (nI ((y * 34) + 16))), (4, .int (nI i))] → W p l e ({ frames := 0, cells := 0, slots := 0, locals := 0 } : Room) s m args below meth c H locs 0 0 Q (F0 m 11 ls []) from hloop1 _ 0 (Nat.zero_le _) (fun j h => absurd h (Nat.not_lt_zero j)) (Nat.lt_succ_self _) _ _ _ hP hD hS (lv_sub hl [2, 3, 4, 1, 0] rfl)
  clear hP hD hS hl
  intro fu1
  induction fu1 with
  | zero => intro i hi hm hfu; exact absurd hfu (Nat.not_lt_zero _)
  | succ fu1 ih1 =>
    intro i hi hm hfu1 H locs ls hP hD hS hl
    refine lv_iload hx hb dX2_hasWord_11 (lv_at hl 4 rfl) ?_
    refine lv_bipush (v := nI 8) hx hb dX2_hasWord_13 (by decide) ?_
    refine cmp_ge hx hb i 8 39 (by omega) (by omega) dX2_hasWord_15 (by decide) (fun c15 => ?_) (fun c15 => ?_)
    · have e39 : i = 8 := by omega
      subst e39
      refine lv_iconst (v := nI 0) hx hb dX2_hasWord_39 (by decide) ?_
      exact ret 40 _ _ _ (nI 0) () dX2_hasWord_40 (by first | exact Or.inl rfl | exact Or.inr rfl) (by rw [p_hw, anyN_F hm]; rfl) hP hD hS
    · refine lv_aload_n hx hb dX2_hasWord_18 rfl (lv_at hl 0 rfl) ?_
      refine va_get (D := G.1) (ci := 2) (v := .ref (a 7)) (C := RX2) (T := TX2) (N := 14) hx hb hts hiX2 hown hK hP 0 rfl rfl 2 (by decide) lk23 (fun _ h9 => h9) rfl dX2_hasWord_19 ?_
      refine lv_iload_n hx hb dX2_hasWord_22 rfl (lv_at hl 3 rfl) ?_
      refine lv_iload hx hb dX2_hasWord_23 (lv_at hl 4 rfl) ?_
      refine ad_N hx hb ((y * 34) + 16) i dX2_hasWord_25 ?_
      refine rd_i hx hb hK hP 7 rfl (((y * 34) + 16) + i) (by omega) (by omega) dX2_hasWord_26 ?_
      refine lv_iload_n hx hb dX2_hasWord_27 rfl (lv_at hl 2 rfl) ?_
      refine lv_icmp_ne (tgt := 33) hx hb dX2_hasWord_28 (by decide) (fun c28 => ?_) (fun c28 => ?_)
      · refine lv_iinc (v := nI (i + 1)) (lv' := [(4, .int (nI (i + 1))), (0, .ref (a 0)), (1, .int (nI y)), (2, .int x), (3, .int (nI ((y * 34) + 16)))]) hx hb dX2_hasWord_33 hl (k := 4) rfl (inc_N i 1) (by decide) rfl (fun ls hl => ?_)
        refine lv_goto (tgt := 11) hx hb dX2_hasWord_36 (by decide) ?_
        exact ih1 (i + 1) (by omega) (lt_s hm (fun z => c28 (of_decide_eq_true z))) (by omega) _ _ _ hP hD hS (lv_sub hl [1, 2, 3, 4, 0] rfl)
      · refine lv_iconst (v := nI 1) hx hb dX2_hasWord_31 (by decide) ?_
        exact ret 32 _ _ _ (nI 1) () dX2_hasWord_32 (by first | exact Or.inl rfl | exact Or.inr rfl) (by rw [p_hw, anyN_T (i := i) (by omega) (decide_eq_true c28)]; rfl) hP hD hS
set_option maxHeartbeats 4000000 in
set_option maxRecDepth 100000 in
theorem c_find (l : Launch) (G : gG) (sz : Nat) (a : Nat → Nat) (fm fh fw fb fc fd fr fp : Nat → Int32) (n k z t : Nat) (kn : Int32) (pl lf pn : Nat) (x : Int32) (hn : n ≤ 60) (hk : k ≤ 8) (hz : z ≤ 20) (ht : t ≤ 100000) (hpl : pl ≤ 60) (hlf : lf ≤ 6) (hpn : pn ≤ 1560)  : MetI l yX2_find wsX2_find ({ frames := 4, cells := 0, slots := 0, locals := 88 } : Room) [.ref (a 0), .int x] G (wC G a fm fh fw fb fc fd fr fp n k z t kn pl lf pn) sz (fun _ : Unit => wC G a fm fh fw fb fc fd fr fp n k z t kn pl lf pn) (fun r _ => q_find fb fc n x r) := by
  refine ent_i _ cX2_find 3 RX2 (by decide) rfl rfl (Nat.le_of_ble_eq_true rfl) ?_
  intro p e s m args below meth c A Q ls hx hb hml hts hown hA hK hX ret hl hP hD hS
  have hl : lv_has ls 3 [(0, .ref (a 0)), (1, .int x)] := hl
  have lk19 := hts (.fieldLink RX2 19 "MinedLedger" "filter" "LMinedLedger$Filter;") (by decide +kernel)
  have lk36 := hts (.fieldLink RX2 36 "MinedLedger" "entryCount" "I") (by decide +kernel)
  have hiX2 : ∀ w ∈ wsX20, w ∈ wsX2_find := by decide +kernel
  refine lv_aload_n hx hb dX2_find_0 rfl (lv_at hl 0 rfl) ?_
  refine va_get (D := G.1) (ci := 2) (v := .ref (a 5)) (C := RX2) (T := TX2) (N := 14) hx hb hts hiX2 hown hK hP 0 rfl rfl 1 (by decide) lk19 (fun _ h9 => h9) rfl dX2_find_1 ?_
  refine lv_iload_n hx hb dX2_find_4 rfl (lv_at hl 1 rfl) ?_
  refine call_Vi (wr := ([(a 0, .inr (2, [.ref (a 1), .ref (a 5), .ref (a 7), .ref (a 8), .ref (a 9), .ref (a 10), .int (nI n), .int (nI k), .int (nI z), .int (nI t), .int kn, .int (nI pl), .int (nI lf), .int (nI pn)])), (a 1, .inr (1, [.ref (a 2), .ref (a 3), .ref (a 4)])), (a 2, .inl (G.2.2.1, 8, .inl fm)), (a 3, .inl (G.2.2.1, 8, .inl fh)), (a 4, .inl (G.2.2.1, 64, .inl fw)), (a 7, .inl (G.2.2.1, 2040, .inl fc)), (a 8, .inl (G.2.2.1, 8, .inl fd)), (a 9, .inl (G.2.2.1, 34, .inl fr)), (a 10, .inl (G.2.2.1, 1560, .inl fp))] : va_W)) [.int x] [] ⟨hx, hb, hml, hown, hts⟩ hK hX hA hP hD hS (c_mayHave l G _ (a 5) (a 6) fb x) (cwV 1 hts gX2_find_X0_mayHave rfl rfl rfl (by decide +kernel) ⟨Nat.le_of_ble_eq_true rfl, Nat.le_of_ble_eq_true rfl⟩) 0 5 rfl rfl rfl [5, 6] [0, 1, 2, 3, 4, 7, 8, 9, 10] rfl rfl (by decide) (by decide) (by decide) rfl hl.1 (Nat.le_of_ble_eq_true rfl) dX2_find_5 ⟨Nat.zero_le _, Nat.zero_le _⟩ (fun r_1 u H locs hw hP hD hS => ?_)
  obtain rfl := hw
  have hP : va_P G.1 vwCl (wC G a fm fh fw fb fc fd fr fp n k z t kn pl lf pn) H := hP.sub [0, 1, 2, 3, 4, 9, 10, 5, 6, 7, 8] rfl
  have hD : va_D A (wC G a fm fh fw fb fc fd fr fp n k z t kn pl lf pn) := hD.sub [0, 1, 2, 3, 4, 9, 10, 5, 6, 7, 8] (by decide) rfl
  refine lv_if_ne (tgt := 13) hx hb dX2_find_8 (by decide) (fun c8 => ?_) (fun c8 => ?_)
  · refine lv_iconst (v := nI 0) hx hb dX2_find_13 (by decide) ?_
    refine lv_istore_n (lv' := [(2, .int (nI 0)), (0, .ref (a 0)), (1, .int x)]) hx hb dX2_find_14 rfl hl (by decide) rfl (fun ls hl => ?_)
    suffices hloop1 : ∀ (fu1 : Nat) (i : Nat), (i ≤ n) → (∀ j, j < i → p_hw fc x j = false) → n - i < fu1 → ∀ (H : Heap) (locs : List Loc) (ls : Array Slot), va_P G.1 vwCl (wC G a fm fh fw fb fc fd fr fp n k z t kn pl lf pn) H → va_D A (wC G a fm fh fw fb fc fd fr fp n k z t kn pl lf pn) → va_S A s.heap H locs → lv_has ls 3 [(0, .ref (a 0)), (1, .int x), (2, .int (nI i))] → W p l e ({ frames := 4, cells := 0, slots := 0, locals := 88 } : Room) s m args below meth c H locs 0 0 Q (F0 m 15 ls []) from hloop1 _ 0 (Nat.zero_le _) (fun j h => absurd h (Nat.not_lt_zero j)) (Nat.lt_succ_self _) _ _ _ hP hD hS (lv_sub hl [1, 2, 0] rfl)
    clear hP hD hS hl
    intro fu1
    induction fu1 with
    | zero => intro i hi hm hfu; exact absurd hfu (Nat.not_lt_zero _)
    | succ fu1 ih1 =>
      intro i hi hm hfu1 H locs ls hP hD hS hl
      refine lv_iload_n hx hb dX2_find_15 rfl (lv_at hl 2 rfl) ?_
      refine lv_aload_n hx hb dX2_find_16 rfl (lv_at hl 0 rfl) ?_
      refine va_get (D := G.1) (ci := 2) (v := .int (nI n)) (C := RX2) (T := TX2) (N := 14) hx hb hts hiX2 hown hK hP 0 rfl rfl 6 (by decide) lk36 (fun _ h9 => h9) rfl dX2_find_17 ?_
      refine cmp_ge hx hb i n 40 (by omega) (by omega) dX2_find_20 (by decide) (fun c20 => ?_) (fun c20 => ?_)
      · refine lv_iconst (v := (-1)) hx hb dX2_find_40 (by decide) ?_
        exact ret 41 _ _ _ (-1) () dX2_find_41 (Or.inr ⟨bI_n c8, Or.inr ⟨rfl, fun j hj => hm j (by omega)⟩⟩) hP hD hS
      · refine lv_aload_n hx hb dX2_find_23 rfl (lv_at hl 0 rfl) ?_
        refine lv_iload_n hx hb dX2_find_24 rfl (lv_at hl 2 rfl) ?_
        refine lv_iload_n hx hb dX2_find_25 rfl (lv_at hl 1 rfl) ?_
        refine call_Vi (wr := ([] : va_W)) [.int (nI i), .int x] [] ⟨hx, hb, hml, hown, hts⟩ hK hX hA hP hD hS (c_hasWord l G _ a fm fh fw fb fc fd fr fp n k z t kn pl lf pn i x (by omega) (by omega) (by omega) (by omega) (by omega) (by omega) (by omega) (by omega)) (cwV 2 hts gX2_find_X2_hasWord rfl rfl rfl (by decide +kernel) ⟨Nat.le_of_ble_eq_true rfl, Nat.le_of_ble_eq_true rfl⟩) 2 0 rfl rfl rfl [0, 1, 2, 3, 4, 5, 6, 7, 8, 9, 10] [] rfl rfl (by decide) (by decide) (by decide) rfl hl.1 (Nat.le_of_ble_eq_true rfl) dX2_find_26 ⟨Nat.zero_le _, Nat.zero_le _⟩ (fun r_4 u H locs hw hP hD hS => ?_)
        obtain rfl := hw
        have hP : va_P G.1 vwCl (wC G a fm fh fw fb fc fd fr fp n k z t kn pl lf pn) H := hP
        have hD : va_D A (wC G a fm fh fw fb fc fd fr fp n k z t kn pl lf pn) := hD
        refine lv_if_eq (tgt := 34) hx hb dX2_find_29 (by decide) (fun c29 => ?_) (fun c29 => ?_)
        · refine lv_iinc (v := nI (i + 1)) (lv' := [(2, .int (nI (i + 1))), (0, .ref (a 0)), (1, .int x)]) hx hb dX2_find_34 hl (k := 2) rfl (inc_N i 1) (by decide) rfl (fun ls hl => ?_)
          refine lv_goto (tgt := 15) hx hb dX2_find_37 (by decide) ?_
          exact ih1 (i + 1) (by omega) (lt_s hm (bI_z c29)) (by omega) _ _ _ hP hD hS (lv_sub hl [1, 2, 0] rfl)
        · refine lv_iload_n hx hb dX2_find_32 rfl (lv_at hl 2 rfl) ?_
          exact ret 33 _ _ _ (nI i) () dX2_find_33 (Or.inr ⟨bI_n c8, Or.inl ⟨i, c20, rfl, bI_n c29, hm⟩⟩) hP hD hS
  · refine lv_iconst (v := (-1)) hx hb dX2_find_11 (by decide) ?_
    exact ret 12 _ _ _ (-1) () dX2_find_12 (Or.inl ⟨bI_z c8, rfl⟩) hP hD hS
set_option maxHeartbeats 4000000 in
set_option maxRecDepth 100000 in
theorem c_commit (l : Launch) (G : gG) (sz : Nat) (a : Nat → Nat) (fm fh fw fb fc fd fr fp : Nat → Int32) (n k z t : Nat) (kn : Int32) (pl lf pn : Nat)  (hn : n ≤ 60) (hk : k ≤ 8) (hz : z ≤ 20) (ht : t ≤ 100000) (hpl : pl ≤ 60) (hlf : lf ≤ 6) (hpn : pn ≤ 1560)  : MetI l yX2_commit wsX2_commit ({ frames := 5, cells := 0, slots := 0, locals := 111 } : Room) [.ref (a 0)] G (wC G a fm fh fw fb fc fd fr fp n k z t kn pl lf pn) sz (fun u : (Nat → Int32) × (Nat → Int32) × (Nat → Int32) × (Nat → Int32) × Nat × Nat × Nat × Int32 => wC G a fm fh fw u.1 u.2.1 u.2.2.1 u.2.2.2.1 fp u.2.2.2.2.1 u.2.2.2.2.2.1 z u.2.2.2.2.2.2.1 u.2.2.2.2.2.2.2 pl lf pn) (fun r u => q_commit fb fc fd fr n k t kn r u.1 u.2.1 u.2.2.1 u.2.2.2.1 u.2.2.2.2.1 u.2.2.2.2.2.1 u.2.2.2.2.2.2.1 u.2.2.2.2.2.2.2) := by
  refine ent_i _ cX2_commit 2 RX2 (by decide) rfl rfl (Nat.le_of_ble_eq_true rfl) ?_
  intro p e s m args below meth c A Q ls hx hb hml hts hown hA hK hX ret hl hP hD hS
  have hl : lv_has ls 2 [(0, .ref (a 0))] := hl
  have lk23 := hts (.fieldLink RX2 23 "MinedLedger" "cells" "[I") (by decide +kernel)
  have lk27 := hts (.fieldLink RX2 27 "MinedLedger" "headWords" "[I") (by decide +kernel)
  have lk30 := hts (.fieldLink RX2 30 "MinedLedger" "draft" "[I") (by decide +kernel)
  have lk36 := hts (.fieldLink RX2 36 "MinedLedger" "entryCount" "I") (by decide +kernel)
  have lk58 := hts (.fieldLink RX2 58 "MinedLedger" "keptNonce" "I") (by decide +kernel)
  have hiX2 : ∀ w ∈ wsX20, w ∈ wsX2_commit := by decide +kernel
  refine lv_aload_n hx hb dX2_commit_0 rfl (lv_at hl 0 rfl) ?_
  refine va_get (D := G.1) (ci := 2) (v := .int (nI n)) (C := RX2) (T := TX2) (N := 14) hx hb hts hiX2 hown hK hP 0 rfl rfl 6 (by decide) lk36 (fun _ h9 => h9) rfl dX2_commit_1 ?_
  refine lv_bipush (v := nI 60) hx hb dX2_commit_4 (by decide) ?_
  refine cmp_lt hx hb n 60 12 (by omega) (by omega) dX2_commit_6 (by decide) (fun c6 => ?_) (fun c6 => ?_)
  · refine lv_aload_n hx hb dX2_commit_12 rfl (lv_at hl 0 rfl) ?_
    refine va_get (D := G.1) (ci := 2) (v := .int kn) (C := RX2) (T := TX2) (N := 14) hx hb hts hiX2 hown hK hP 0 rfl rfl 10 (by decide) lk58 (fun _ h9 => h9) rfl dX2_commit_13 ?_
    refine lv_iconst (v := (-1)) hx hb dX2_commit_16 (by decide) ?_
    refine lv_icmp_ne (tgt := 23) hx hb dX2_commit_17 (by decide) (fun c17 => ?_) (fun c17 => ?_)
    · refine lv_aload_n hx hb dX2_commit_23 rfl (lv_at hl 0 rfl) ?_
      refine va_get (D := G.1) (ci := 2) (v := .int (nI n)) (C := RX2) (T := TX2) (N := 14) hx hb hts hiX2 hown hK hP 0 rfl rfl 6 (by decide) lk36 (fun _ h9 => h9) rfl dX2_commit_24 ?_
      refine lv_istore_n (lv' := [(1, .int (nI n)), (0, .ref (a 0))]) hx hb dX2_commit_27 rfl hl (by decide) rfl (fun ls hl => ?_)
      refine lv_aload_n hx hb dX2_commit_28 rfl (lv_at hl 1 rfl) ?_
      refine va_get (D := G.1) (ci := 2) (v := .ref (a 9)) (C := RX2) (T := TX2) (N := 14) hx hb hts hiX2 hown hK hP 0 rfl rfl 4 (by decide) lk30 (fun _ h9 => h9) rfl dX2_commit_29 ?_
      refine lv_iconst (v := nI 0) hx hb dX2_commit_32 (by decide) ?_
      refine lv_aload_n hx hb dX2_commit_33 rfl (lv_at hl 1 rfl) ?_
      refine va_get (D := G.1) (ci := 2) (v := .ref (a 7)) (C := RX2) (T := TX2) (N := 14) hx hb hts hiX2 hown hK hP 0 rfl rfl 2 (by decide) lk23 (fun _ h9 => h9) rfl dX2_commit_34 ?_
      refine lv_iload_n hx hb dX2_commit_37 rfl (lv_at hl 0 rfl) ?_
      refine lv_bipush (v := nI 34) hx hb dX2_commit_38 (by decide) ?_
      refine mu_N hx hb n 34 dX2_commit_40 ?_
      refine lv_bipush (v := nI 34) hx hb dX2_commit_41 (by decide) ?_
      refine cpy_i hx hb (by rw [hml]; exact hl.1.symm) hown (hts (.methodLink RX2 84 arraycopyName) (by decide +kernel)) (hts (.native arraycopyName) (by decide +kernel)) (hts (.static arraycopyName) (by decide +kernel)) (hts (.initialized "java/lang/System") (by decide +kernel)) hK hP hD hS 9 7 rfl rfl 0 (n * 34) 34 (by omega) (by omega) (by omega) (Nat.le_of_ble_eq_true rfl) (Nat.le_of_ble_eq_true rfl) dX2_commit_43 (fun H locs hP hD hS => ?_)
      have hP : va_P G.1 vwCl (wC G a fm fh fw fb (va_cpy fr fc 0 (n * 34) 34) fd fr fp n k z t kn pl lf pn) H := hP
      have hD : va_D A (wC G a fm fh fw fb (va_cpy fr fc 0 (n * 34) 34) fd fr fp n k z t kn pl lf pn) := hD
      refine lv_aload_n hx hb dX2_commit_46 rfl (lv_at hl 1 rfl) ?_
      refine va_get (D := G.1) (ci := 2) (v := .ref (a 9)) (C := RX2) (T := TX2) (N := 14) hx hb hts hiX2 hown hK hP 0 rfl rfl 4 (by decide) lk30 (fun _ h9 => h9) rfl dX2_commit_47 ?_
      refine lv_bipush (v := nI 26) hx hb dX2_commit_50 (by decide) ?_
      refine lv_aload_n hx hb dX2_commit_52 rfl (lv_at hl 1 rfl) ?_
      refine va_get (D := G.1) (ci := 2) (v := .ref (a 8)) (C := RX2) (T := TX2) (N := 14) hx hb hts hiX2 hown hK hP 0 rfl rfl 3 (by decide) lk27 (fun _ h9 => h9) rfl dX2_commit_53 ?_
      refine lv_iconst (v := nI 0) hx hb dX2_commit_56 (by decide) ?_
      refine lv_bipush (v := nI 8) hx hb dX2_commit_57 (by decide) ?_
      refine cpy_i hx hb (by rw [hml]; exact hl.1.symm) hown (hts (.methodLink RX2 84 arraycopyName) (by decide +kernel)) (hts (.native arraycopyName) (by decide +kernel)) (hts (.static arraycopyName) (by decide +kernel)) (hts (.initialized "java/lang/System") (by decide +kernel)) hK hP hD hS 9 8 rfl rfl 26 0 8 (by omega) (by omega) (by omega) (Nat.le_of_ble_eq_true rfl) (Nat.le_of_ble_eq_true rfl) dX2_commit_59 (fun H locs hP hD hS => ?_)
      have hP : va_P G.1 vwCl (wC G a fm fh fw fb (va_cpy fr fc 0 (n * 34) 34) (va_cpy fr fd 26 0 8) fr fp n k z t kn pl lf pn) H := hP
      have hD : va_D A (wC G a fm fh fw fb (va_cpy fr fc 0 (n * 34) 34) (va_cpy fr fd 26 0 8) fr fp n k z t kn pl lf pn) := hD
      refine lv_aload_n hx hb dX2_commit_62 rfl (lv_at hl 1 rfl) ?_
      refine lv_dup hx hb dX2_commit_63 rfl ?_
      refine va_get (D := G.1) (ci := 2) (v := .int (nI n)) (C := RX2) (T := TX2) (N := 14) hx hb hts hiX2 hown hK hP 0 rfl rfl 6 (by decide) lk36 (fun _ h9 => h9) rfl dX2_commit_64 ?_
      refine lv_iconst (v := nI 1) hx hb dX2_commit_67 (by decide) ?_
      refine ad_N hx hb n 1 dX2_commit_68 ?_
      refine va_put (D := G.1) (ci := 2) (v := .int (nI (n + 1))) (ty := .int) (C := RX2) (T := TX2) (N := 14) hx hb hts hiX2 tyX2 tyX2_ok nmX2 hown hK hP hD hS 0 rfl rfl 6 (by decide) lk36 (fun _ h9 => h9) rfl (by decide +kernel) rfl rfl (Nat.le_of_ble_eq_true rfl) dX2_commit_69 (fun H locs hP hD hS => ?_)
      have hP : va_P G.1 vwCl (wC G a fm fh fw fb (va_cpy fr fc 0 (n * 34) 34) (va_cpy fr fd 26 0 8) fr fp (n + 1) k z t kn pl lf pn) H := hP
      have hD : va_D A (wC G a fm fh fw fb (va_cpy fr fc 0 (n * 34) 34) (va_cpy fr fd 26 0 8) fr fp (n + 1) k z t kn pl lf pn) := hD
      refine lv_aload_n hx hb dX2_commit_72 rfl (lv_at hl 1 rfl) ?_
      refine lv_iload_n hx hb dX2_commit_73 rfl (lv_at hl 0 rfl) ?_
      refine call_Vv (wr := ([] : va_W)) [.int (nI n)] [] ⟨hx, hb, hml, hown, hts⟩ hK hX hA hP hD hS (c_addToFilter l G _ a fm fh fw fb (va_cpy fr fc 0 (n * 34) 34) (va_cpy fr fd 26 0 8) fr fp (n + 1) k z t kn pl lf pn n (by omega) (by omega) (by omega) (by omega) (by omega) (by omega) (by omega) (by omega)) (cwV 1 hts gX2_commit_X2_addToFilter rfl rfl rfl (by decide +kernel) ⟨Nat.le_of_ble_eq_true rfl, Nat.le_of_ble_eq_true rfl⟩) 2 0 rfl rfl rfl [0, 1, 2, 3, 4, 5, 6, 7, 8, 9, 10] [] rfl rfl (by decide) (by decide) (by decide) rfl hl.1 (Nat.le_of_ble_eq_true rfl) dX2_commit_74 ⟨Nat.zero_le _, Nat.zero_le _⟩ (fun u H locs hw hP hD hS => ?_)
      have hP : va_P G.1 vwCl (wC G a fm fh fw (p_addN fb (va_cpy fr fc 0 (n * 34) 34) (n * 34 + 16) 8) (va_cpy fr fc 0 (n * 34) 34) (va_cpy fr fd 26 0 8) fr fp (n + 1) k z t kn pl lf pn) H := hP
      have hD : va_D A (wC G a fm fh fw (p_addN fb (va_cpy fr fc 0 (n * 34) 34) (n * 34 + 16) 8) (va_cpy fr fc 0 (n * 34) 34) (va_cpy fr fd 26 0 8) fr fp (n + 1) k z t kn pl lf pn) := hD
      refine lv_aload_n hx hb dX2_commit_77 rfl (lv_at hl 1 rfl) ?_
      refine lv_iconst (v := nI 0) hx hb dX2_commit_78 (by decide) ?_
      refine call_Vv (wr := ([] : va_W)) [.int (nI 0)] [] ⟨hx, hb, hml, hown, hts⟩ hK hX hA hP hD hS (c_clearWordsFrom l G _ a fm fh fw (p_addN fb (va_cpy fr fc 0 (n * 34) 34) (n * 34 + 16) 8) (va_cpy fr fc 0 (n * 34) 34) (va_cpy fr fd 26 0 8) fr fp (n + 1) k z t kn pl lf pn 0 (by omega) (by omega) (by omega) (by omega) (by omega) (by omega) (by omega) (by omega)) (cwV 1 hts gX2_commit_X2_clearWordsFrom rfl rfl rfl (by decide +kernel) ⟨Nat.le_of_ble_eq_true rfl, Nat.le_of_ble_eq_true rfl⟩) 2 0 rfl rfl rfl [0, 1, 2, 3, 4, 5, 6, 7, 8, 9, 10] [] rfl rfl (by decide) (by decide) (by decide) rfl hl.1 (Nat.le_of_ble_eq_true rfl) dX2_commit_79 ⟨Nat.zero_le _, Nat.zero_le _⟩ (fun u H locs hw hP hD hS => ?_)
      have hP : va_P G.1 vwCl (wC G a fm fh fw (p_addN fb (va_cpy fr fc 0 (n * 34) 34) (n * 34 + 16) 8) (va_cpy fr fc 0 (n * 34) 34) (va_cpy fr fd 26 0 8) (p_fill fr (16 + 0) 24 (nI 0)) fp (n + 1) 0 z t kn pl lf pn) H := hP
      have hD : va_D A (wC G a fm fh fw (p_addN fb (va_cpy fr fc 0 (n * 34) 34) (n * 34 + 16) 8) (va_cpy fr fc 0 (n * 34) 34) (va_cpy fr fd 26 0 8) (p_fill fr (16 + 0) 24 (nI 0)) fp (n + 1) 0 z t kn pl lf pn) := hD
      refine lv_aload_n hx hb dX2_commit_82 rfl (lv_at hl 1 rfl) ?_
      refine call_Vv (wr := ([] : va_W)) [] [] ⟨hx, hb, hml, hown, hts⟩ hK hX hA hP hD hS (c_forgetNonces l G _ a fm fh fw (p_addN fb (va_cpy fr fc 0 (n * 34) 34) (n * 34 + 16) 8) (va_cpy fr fc 0 (n * 34) 34) (va_cpy fr fd 26 0 8) (p_fill fr (16 + 0) 24 (nI 0)) fp (n + 1) 0 z t kn pl lf pn  (by omega) (by omega) (by omega) (by omega) (by omega) (by omega) (by omega)) (cwV 0 hts gX2_commit_X2_forgetNonces rfl rfl rfl (by decide +kernel) ⟨Nat.le_of_ble_eq_true rfl, Nat.le_of_ble_eq_true rfl⟩) 2 0 rfl rfl rfl [0, 1, 2, 3, 4, 5, 6, 7, 8, 9, 10] [] rfl rfl (by decide) (by decide) (by decide) rfl hl.1 (Nat.le_of_ble_eq_true rfl) dX2_commit_83 ⟨Nat.zero_le _, Nat.zero_le _⟩ (fun u H locs hw hP hD hS => ?_)
      have hP : va_P G.1 vwCl (wC G a fm fh fw (p_addN fb (va_cpy fr fc 0 (n * 34) 34) (n * 34 + 16) 8) (va_cpy fr fc 0 (n * 34) 34) (va_cpy fr fd 26 0 8) (p_fill fr (16 + 0) 24 (nI 0)) fp (n + 1) 0 z 0 (-1) pl lf pn) H := hP
      have hD : va_D A (wC G a fm fh fw (p_addN fb (va_cpy fr fc 0 (n * 34) 34) (n * 34 + 16) 8) (va_cpy fr fc 0 (n * 34) 34) (va_cpy fr fd 26 0 8) (p_fill fr (16 + 0) 24 (nI 0)) fp (n + 1) 0 z 0 (-1) pl lf pn) := hD
      refine lv_iload_n hx hb dX2_commit_86 rfl (lv_at hl 0 rfl) ?_
      exact ret 87 _ _ _ (nI n) (p_addN fb (va_cpy fr fc 0 (n * 34) 34) (n * 34 + 16) 8, va_cpy fr fc 0 (n * 34) 34, va_cpy fr fd 26 0 8, p_fill fr (16 + 0) 24 (nI 0), n + 1, 0, 0, (-1)) dX2_commit_87 (Or.inr ⟨c6, Or.inr ⟨c17, rfl, rfl, rfl, rfl, rfl, rfl, rfl, rfl, rfl⟩⟩) hP hD hS
    · refine lv_bipush (v := (-3)) hx hb dX2_commit_20 (by decide) ?_
      exact ret 22 _ _ _ (-3) (fb, fc, fd, fr, n, k, t, kn) dX2_commit_22 (Or.inr ⟨c6, Or.inl ⟨c17, rfl, rfl, rfl, rfl, rfl, rfl, rfl, rfl, rfl⟩⟩) hP hD hS
  · refine lv_bipush (v := (-4)) hx hb dX2_commit_9 (by decide) ?_
    exact ret 11 _ _ _ (-4) (fb, fc, fd, fr, n, k, t, kn) dX2_commit_11 (Or.inl ⟨c6, rfl, rfl, rfl, rfl, rfl, rfl, rfl, rfl, rfl⟩) hP hD hS
set_option maxHeartbeats 4000000 in
set_option maxRecDepth 100000 in
theorem c_drop (l : Launch) (G : gG) (sz : Nat) (a : Nat → Nat) (fm fh fw fb fc fd fr fp : Nat → Int32) (n k z t : Nat) (kn : Int32) (pl lf pn : Nat)  (hn : n ≤ 60) (hk : k ≤ 8) (hz : z ≤ 20) (ht : t ≤ 100000) (hpl : pl ≤ 60) (hlf : lf ≤ 6) (hpn : pn ≤ 1560)  : MetI l yX2_drop wsX2_drop ({ frames := 6, cells := 0, slots := 0, locals := 132 } : Room) [.ref (a 0)] G (wC G a fm fh fw fb fc fd fr fp n k z t kn pl lf pn) sz (fun u : (Nat → Int32) × (Nat → Int32) × Nat × Nat × Int32 × Nat => wC G a fm fh fw u.1 fc u.2.1 fr fp u.2.2.1 k z u.2.2.2.1 u.2.2.2.2.1 u.2.2.2.2.2 lf pn) (fun r u => q_drop fb fc fd n t kn pl r u.1 u.2.1 u.2.2.1 u.2.2.2.1 u.2.2.2.2.1 u.2.2.2.2.2) := by
  refine ent_i _ cX2_drop 1 RX2 (by decide) rfl rfl (Nat.le_of_ble_eq_true rfl) ?_
  intro p e s m args below meth c A Q ls hx hb hml hts hown hA hK hX ret hl hP hD hS
  have hl : lv_has ls 1 [(0, .ref (a 0))] := hl
  have lk23 := hts (.fieldLink RX2 23 "MinedLedger" "cells" "[I") (by decide +kernel)
  have lk27 := hts (.fieldLink RX2 27 "MinedLedger" "headWords" "[I") (by decide +kernel)
  have lk36 := hts (.fieldLink RX2 36 "MinedLedger" "entryCount" "I") (by decide +kernel)
  have lk61 := hts (.fieldLink RX2 61 "MinedLedger" "place" "I") (by decide +kernel)
  have hiX2 : ∀ w ∈ wsX20, w ∈ wsX2_drop := by decide +kernel
  refine lv_aload_n hx hb dX2_drop_0 rfl (lv_at hl 0 rfl) ?_
  refine va_get (D := G.1) (ci := 2) (v := .int (nI n)) (C := RX2) (T := TX2) (N := 14) hx hb hts hiX2 hown hK hP 0 rfl rfl 6 (by decide) lk36 (fun _ h9 => h9) rfl dX2_drop_1 ?_
  refine if0_ne hx hb n 9 (by omega) dX2_drop_4 (by decide) (fun c4 => ?_) (fun c4 => ?_)
  · refine lv_aload_n hx hb dX2_drop_9 rfl (lv_at hl 0 rfl) ?_
    refine lv_dup hx hb dX2_drop_10 rfl ?_
    refine va_get (D := G.1) (ci := 2) (v := .int (nI n)) (C := RX2) (T := TX2) (N := 14) hx hb hts hiX2 hown hK hP 0 rfl rfl 6 (by decide) lk36 (fun _ h9 => h9) rfl dX2_drop_11 ?_
    refine lv_iconst (v := nI 1) hx hb dX2_drop_14 (by decide) ?_
    refine su_N hx hb n 1 (by omega) dX2_drop_15 ?_
    refine va_put (D := G.1) (ci := 2) (v := .int (nI (n - 1))) (ty := .int) (C := RX2) (T := TX2) (N := 14) hx hb hts hiX2 tyX2 tyX2_ok nmX2 hown hK hP hD hS 0 rfl rfl 6 (by decide) lk36 (fun _ h9 => h9) rfl (by decide +kernel) rfl rfl (Nat.le_of_ble_eq_true rfl) dX2_drop_16 (fun H locs hP hD hS => ?_)
    have hP : va_P G.1 vwCl (wC G a fm fh fw fb fc fd fr fp (n - 1) k z t kn pl lf pn) H := hP
    have hD : va_D A (wC G a fm fh fw fb fc fd fr fp (n - 1) k z t kn pl lf pn) := hD
    refine lv_aload_n hx hb dX2_drop_19 rfl (lv_at hl 0 rfl) ?_
    refine va_get (D := G.1) (ci := 2) (v := .ref (a 7)) (C := RX2) (T := TX2) (N := 14) hx hb hts hiX2 hown hK hP 0 rfl rfl 2 (by decide) lk23 (fun _ h9 => h9) rfl dX2_drop_20 ?_
    refine lv_aload_n hx hb dX2_drop_23 rfl (lv_at hl 0 rfl) ?_
    refine va_get (D := G.1) (ci := 2) (v := .int (nI (n - 1))) (C := RX2) (T := TX2) (N := 14) hx hb hts hiX2 hown hK hP 0 rfl rfl 6 (by decide) lk36 (fun _ h9 => h9) rfl dX2_drop_24 ?_
    refine lv_bipush (v := nI 34) hx hb dX2_drop_27 (by decide) ?_
    refine mu_N hx hb (n - 1) 34 dX2_drop_29 ?_
    refine lv_iconst (v := nI 0) hx hb dX2_drop_30 (by decide) ?_
    refine ad_N hx hb ((n - 1) * 34) 0 dX2_drop_31 ?_
    refine lv_aload_n hx hb dX2_drop_32 rfl (lv_at hl 0 rfl) ?_
    refine va_get (D := G.1) (ci := 2) (v := .ref (a 8)) (C := RX2) (T := TX2) (N := 14) hx hb hts hiX2 hown hK hP 0 rfl rfl 3 (by decide) lk27 (fun _ h9 => h9) rfl dX2_drop_33 ?_
    refine lv_iconst (v := nI 0) hx hb dX2_drop_36 (by decide) ?_
    refine lv_bipush (v := nI 8) hx hb dX2_drop_37 (by decide) ?_
    refine cpy_i hx hb (by rw [hml]; exact hl.1.symm) hown (hts (.methodLink RX2 84 arraycopyName) (by decide +kernel)) (hts (.native arraycopyName) (by decide +kernel)) (hts (.static arraycopyName) (by decide +kernel)) (hts (.initialized "java/lang/System") (by decide +kernel)) hK hP hD hS 7 8 rfl rfl (((n - 1) * 34) + 0) 0 8 (by omega) (by omega) (by omega) (Nat.le_of_ble_eq_true rfl) (Nat.le_of_ble_eq_true rfl) dX2_drop_39 (fun H locs hP hD hS => ?_)
    have hP : va_P G.1 vwCl (wC G a fm fh fw fb fc (va_cpy fc fd (((n - 1) * 34) + 0) 0 8) fr fp (n - 1) k z t kn pl lf pn) H := hP
    have hD : va_D A (wC G a fm fh fw fb fc (va_cpy fc fd (((n - 1) * 34) + 0) 0 8) fr fp (n - 1) k z t kn pl lf pn) := hD
    refine lv_aload_n hx hb dX2_drop_42 rfl (lv_at hl 0 rfl) ?_
    refine call_Vv (wr := ([] : va_W)) [] [] ⟨hx, hb, hml, hown, hts⟩ hK hX hA hP hD hS (c_remakeFilter l G _ a fm fh fw fb fc (va_cpy fc fd (((n - 1) * 34) + 0) 0 8) fr fp (n - 1) k z t kn pl lf pn  (by omega) (by omega) (by omega) (by omega) (by omega) (by omega) (by omega)) (cwV 0 hts gX2_drop_X2_remakeFilter rfl rfl rfl (by decide +kernel) ⟨Nat.le_of_ble_eq_true rfl, Nat.le_of_ble_eq_true rfl⟩) 2 0 rfl rfl rfl [0, 1, 2, 3, 4, 5, 6, 7, 8, 9, 10] [] rfl rfl (by decide) (by decide) (by decide) rfl hl.1 (Nat.le_of_ble_eq_true rfl) dX2_drop_43 ⟨Nat.zero_le _, Nat.zero_le _⟩ (fun u H locs hw hP hD hS => ?_)
    have hP : va_P G.1 vwCl (wC G a fm fh fw (p_remN fb fc (n - 1)) fc (va_cpy fc fd (((n - 1) * 34) + 0) 0 8) fr fp (n - 1) k z t kn pl lf pn) H := hP
    have hD : va_D A (wC G a fm fh fw (p_remN fb fc (n - 1)) fc (va_cpy fc fd (((n - 1) * 34) + 0) 0 8) fr fp (n - 1) k z t kn pl lf pn) := hD
    refine lv_aload_n hx hb dX2_drop_46 rfl (lv_at hl 0 rfl) ?_
    refine lv_aload_n hx hb dX2_drop_47 rfl (lv_at hl 0 rfl) ?_
    refine va_get (D := G.1) (ci := 2) (v := .int (nI pl)) (C := RX2) (T := TX2) (N := 14) hx hb hts hiX2 hown hK hP 0 rfl rfl 11 (by decide) lk61 (fun _ h9 => h9) rfl dX2_drop_48 ?_
    refine lv_aload_n hx hb dX2_drop_51 rfl (lv_at hl 0 rfl) ?_
    refine va_get (D := G.1) (ci := 2) (v := .int (nI (n - 1))) (C := RX2) (T := TX2) (N := 14) hx hb hts hiX2 hown hK hP 0 rfl rfl 6 (by decide) lk36 (fun _ h9 => h9) rfl dX2_drop_52 ?_
    refine va_mmin (x := nI pl) (y := nI (n - 1)) hx hb (by rw [hml]; exact hl.1.symm) hown (hts (.methodLink RX2 43 Lib.Math.min.name) (by decide +kernel)) (hts (.static Lib.Math.min.name) (by decide +kernel)) (hts (.initialized "java/lang/Math") (by decide +kernel)) (hts (.code Lib.Math.min.name Lib.Math.min.code 2 (some .int)) (by decide +kernel)) (Nat.le_of_ble_eq_true rfl) (Nat.le_of_ble_eq_true rfl) (Nat.zero_le _) (Nat.zero_le _) dX2_drop_55 ?_
    refine top_i (nI (min pl (n - 1))) (min_N (by omega) (by omega)) ?_
    refine va_put (D := G.1) (ci := 2) (v := .int (nI (min pl (n - 1)))) (ty := .int) (C := RX2) (T := TX2) (N := 14) hx hb hts hiX2 tyX2 tyX2_ok nmX2 hown hK hP hD hS 0 rfl rfl 11 (by decide) lk61 (fun _ h9 => h9) rfl (by decide +kernel) rfl rfl (Nat.le_of_ble_eq_true rfl) dX2_drop_58 (fun H locs hP hD hS => ?_)
    have hP : va_P G.1 vwCl (wC G a fm fh fw (p_remN fb fc (n - 1)) fc (va_cpy fc fd (((n - 1) * 34) + 0) 0 8) fr fp (n - 1) k z t kn (min pl (n - 1)) lf pn) H := hP
    have hD : va_D A (wC G a fm fh fw (p_remN fb fc (n - 1)) fc (va_cpy fc fd (((n - 1) * 34) + 0) 0 8) fr fp (n - 1) k z t kn (min pl (n - 1)) lf pn) := hD
    refine lv_aload_n hx hb dX2_drop_61 rfl (lv_at hl 0 rfl) ?_
    refine call_Vv (wr := ([] : va_W)) [] [] ⟨hx, hb, hml, hown, hts⟩ hK hX hA hP hD hS (c_forgetNonces l G _ a fm fh fw (p_remN fb fc (n - 1)) fc (va_cpy fc fd (((n - 1) * 34) + 0) 0 8) fr fp (n - 1) k z t kn (min pl (n - 1)) lf pn  (by omega) (by omega) (by omega) (by omega) (by omega) (by omega) (by omega)) (cwV 0 hts gX2_drop_X2_forgetNonces rfl rfl rfl (by decide +kernel) ⟨Nat.le_of_ble_eq_true rfl, Nat.le_of_ble_eq_true rfl⟩) 2 0 rfl rfl rfl [0, 1, 2, 3, 4, 5, 6, 7, 8, 9, 10] [] rfl rfl (by decide) (by decide) (by decide) rfl hl.1 (Nat.le_of_ble_eq_true rfl) dX2_drop_62 ⟨Nat.zero_le _, Nat.zero_le _⟩ (fun u H locs hw hP hD hS => ?_)
    have hP : va_P G.1 vwCl (wC G a fm fh fw (p_remN fb fc (n - 1)) fc (va_cpy fc fd (((n - 1) * 34) + 0) 0 8) fr fp (n - 1) k z 0 (-1) (min pl (n - 1)) lf pn) H := hP
    have hD : va_D A (wC G a fm fh fw (p_remN fb fc (n - 1)) fc (va_cpy fc fd (((n - 1) * 34) + 0) 0 8) fr fp (n - 1) k z 0 (-1) (min pl (n - 1)) lf pn) := hD
    refine lv_aload_n hx hb dX2_drop_65 rfl (lv_at hl 0 rfl) ?_
    refine va_get (D := G.1) (ci := 2) (v := .int (nI (n - 1))) (C := RX2) (T := TX2) (N := 14) hx hb hts hiX2 hown hK hP 0 rfl rfl 6 (by decide) lk36 (fun _ h9 => h9) rfl dX2_drop_66 ?_
    exact ret 69 _ _ _ (nI (n - 1)) (p_remN fb fc (n - 1), va_cpy fc fd (((n - 1) * 34) + 0) 0 8, n - 1, 0, (-1), min pl (n - 1)) dX2_drop_69 (Or.inr ⟨c4, rfl, rfl, rfl, rfl, rfl, rfl, rfl⟩) hP hD hS
  · refine lv_iconst (v := (-1)) hx hb dX2_drop_7 (by decide) ?_
    exact ret 8 _ _ _ (-1) (fb, fd, n, t, kn, pl) dX2_drop_8 (Or.inl ⟨c4, rfl, rfl, rfl, rfl, rfl, rfl, rfl⟩) hP hD hS
