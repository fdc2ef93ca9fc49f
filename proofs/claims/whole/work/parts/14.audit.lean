def p_hc (fc : Nat → Int32) (n : Nat) (x : Int32) (i : Nat) : Int32 := if p_ok x n then fc (p_ix x * 34 + 26 + i) else nI 0
theorem hc_F {fc : Nat → Int32} {n : Nat} {x : Int32} {i : Nat} (h : p_ok x n = false) : p_hc fc n x i = nI 0 := by rw [p_hc, h]; rfl
theorem hc_T {fc : Nat → Int32} {n j i : Nat} (hj : j < n) (hn : n ≤ 60) : p_hc fc n (nI j) i = fc (j * 34 + 26 + i) := by rw [p_hc, ok_N (by omega), decide_eq_true hj, if_pos rfl, ix_N hj (by omega)]
def p_iho (fc : Nat → Int32) (n : Nat) (x : Int32) (g : Nat → Int32) (d i : Nat) : Bool := decide (g (d + i) = p_hc fc n x i)
theorem mx_eq {n : Nat} (hn : n ≤ 60) : (if nI 0 < (nI n - nI 1) then (nI n - nI 1) else nI 0) = nI (n - 1) := by
  by_cases h : n = 0
  · subst h; decide
  · rw [pk_sub (show 1 ≤ n by omega)]
    by_cases q : 0 < n - 1
    · rw [if_pos ((nI_ltI (by omega) (by omega)).mpr q)]
    · rw [if_neg (fun z => q ((nI_ltI (by omega) (by omega)).mp z)), show n - 1 = 0 by omega]
abbrev p_hdr (fc fd : Nat → Int32) (n : Nat) : Bool := allN (p_iho fc n (nI n - nI 1) fd 0) 8
def p_dif (v : Int32) : Nat := v.toBitVec.toNat / 16
theorem p_dif_lt (v : Int32) : p_dif v < 268435456 := by
  have := v.toBitVec.isLt
  simp only [p_dif]
  omega
theorem ush4 (v : Int32) : p_ush v (nI 4) = nI (p_dif v) := by
  apply Int32.toBitVec_inj.mp
  apply BitVec.eq_of_toNat_eq
  have e := pk_ushr v (nI 4) 4 (by decide)
  rw [p_ush, e, pk_tn (by have := p_dif_lt v; omega)]
  rfl
def p_flt (fc : Nat → Int32) (n y : Nat) : Nat :=
  if allN (p_iho fc n (nI y - nI 1) fc (y * 34 + 0)) 8 then
    (if allN (p_iho fc n (p_skI y) fc (y * 34 + 8)) 8 then
      (if allN (p_is (p_hash fc (y * 34)) fc (y * 34 + 26)) 8 then (if p_zeros (p_hash fc (y * 34)) < p_dif (fc (y * 34 + 24)) then 4 else 0) else 3)
    else 2)
  else 1
theorem p_flt_le (fc : Nat → Int32) (n y : Nat) : p_flt fc n y ≤ 4 := by
  simp only [p_flt]
  split
  · split
    · split
      · split <;> omega
      · omega
    · omega
  · omega
theorem allN_congr {p q : Nat → Bool} : ∀ {n : Nat}, (∀ i, i < n → p i = q i) → allN p n = allN q n
  | 0, _ => rfl
  | n + 1, h => by rw [allN, allN, allN_congr (fun i hi => h i (by omega)), h n (by omega)]
theorem is_congr {g h f : Nat → Int32} {k : Nat} (e : ∀ j, j < 8 → g j = h j) : allN (p_is g f k) 8 = allN (p_is h f k) 8 := allN_congr (fun i hi => by rw [p_is, p_is, e i hi])
def p_aud (fc fd : Nat → Int32) (n : Nat) : Nat → Nat → Int32 × Nat × Nat
  | 0, pl => ((-1), pl, 0)
  | q + 1, pl => if n ≤ pl then (if p_hdr fc fd n then ((-5), pl, 0) else (nI (n - 1), pl, if n = 0 then 6 else 5)) else if p_flt fc n pl = 0 then p_aud fc fd n q (pl + 1) else (nI pl, pl, p_flt fc n pl)
def q_audit (fc fd : Nat → Int32) (n pl lf : Nat) (x r : Int32) (pl' lf' : Nat) : Prop :=
  ((x.toInt < 1 ∨ 100 < x.toInt) ∧ r = (-2) ∧ pl' = pl ∧ lf' = lf) ∨ (∃ q : Nat, 1 ≤ q ∧ q ≤ 100 ∧ x = nI q ∧ (r, pl', lf') = p_aud fc fd n q pl)
def q_way (n : Nat) (x w r : Int32) : Prop :=
  (p_ok x n = false ∧ r = (-2)) ∨ (∃ y K : Nat, y < n ∧ x = nI y ∧ p_end (n - 1) y K ∧ (((w.toInt < 0 ∨ (K : Int) < w.toInt) ∧ r = (-1)) ∨ (∃ j : Nat, j ≤ K ∧ w = nI j ∧ r = nI (p_way (n - 1) y j))))
def q_prove (fc fp : Nat → Int32) (n pn : Nat) (x r : Int32) (fp' : Nat → Int32) (pn' : Nat) : Prop :=
  (p_ok x n = false ∧ r = (-2) ∧ fp' = fp ∧ pn' = pn) ∨ (∃ y K : Nat, y < n ∧ x = nI y ∧ p_end (n - 1) y K ∧ r = nI (26 * (K + 1)) ∧ pn' = 26 * (K + 1) ∧ ∀ k j, k ≤ K → j < 26 → fp' (26 * k + j) = fc (34 * p_way (n - 1) y k + j))
def p_due (fd fp : Nat → Int32) (x y : Nat) : Nat → Nat → Int32
  | 0, j => fd j
  | k + 1, j => fp (26 * k + (if p_by (p_way x y k) y then 8 else 0) + j)
def p_chk (fd fp : Nat → Int32) (x y k : Nat) : Bool := allN (fun j => decide (p_due fd fp x y k j = p_hash fp (26 * k) j)) 8
def q_check (fd fp : Nat → Int32) (n pn : Nat) (x r : Int32) : Prop :=
  (p_ok x n = false ∧ r = (-2)) ∨ (∃ y K : Nat, y < n ∧ x = nI y ∧ p_end (n - 1) y K ∧ r = bI (decide (pn = 26 * (K + 1)) && allN (p_chk fd fp (n - 1) y) (K + 1)))
theorem end_ex {x e : Nat} (hx : x < 64) (he : e ≤ x) : ∃ K, p_end x e K := by
  obtain ⟨K, h1, h2⟩ := pk_least (fun k => p_way x e k ≤ e) (Classical.byContradiction fun q => by
    have h : ∀ k, e < p_way x e k := fun k => Nat.lt_of_not_le fun z => q ⟨k, z⟩
    have := way_le hx (x + 1) (fun j _ => h j)
    omega)
  have h3 : ∀ j, j < K → e < p_way x e j := fun j hj => Nat.lt_of_not_le (h2 j hj)
  exact ⟨K, h3, Nat.le_antisymm h1 (way_ge hx he K h3)⟩
theorem end_le {n y K i : Nat} (hn : n ≤ 60) (h : p_end (n - 1) y K) (hi : i ≤ K) : p_way (n - 1) y i + i ≤ n - 1 := way_le (by omega) i (fun j hj => h.1 j (by omega))
set_option maxHeartbeats 4000000 in
set_option maxRecDepth 100000 in
theorem c_isHashOf_c (l : Launch) (G : gG) (sz : Nat) (a : Nat → Nat) (fm fh fw fb fc fd fr fp : Nat → Int32) (n k z t : Nat) (kn : Int32) (pl lf pn : Nat) (x : Int32) (d : Nat) (hn : n ≤ 60) (hk : k ≤ 8) (hz : z ≤ 20) (ht : t ≤ 100000) (hpl : pl ≤ 60) (hlf : lf ≤ 6) (hpn : pn ≤ 1560) (hd : d + 8 ≤ 2040) : MetI l yX2_isHashOf wsX2_isHashOf ({ frames := 1, cells := 0, slots := 0, locals := 21 } : Room) [.ref (a 0), .int x, .ref (a 7), .int (nI d)] G (wC G a fm fh fw fb fc fd fr fp n k z t kn pl lf pn) sz (fun _ : Unit => wC G a fm fh fw fb fc fd fr fp n k z t kn pl lf pn) (fun r _ => r = bI (allN (p_iho fc n x fc d) 8)) := by
  refine ent_z _ cX2_isHashOf 7 RX2 (by decide) rfl rfl (Nat.le_of_ble_eq_true rfl) ?_
  intro p e s m args below meth c A Q ls hx hb hml hts hown hA hK hX ret hl hP hD hS
  have hl : lv_has ls 7 [(0, .ref (a 0)), (1, .int x), (2, .ref (a 7)), (3, .int (nI d))] := hl
  have lk23 := hts (.fieldLink RX2 23 "MinedLedger" "cells" "[I") (by decide +kernel)
  have hiX2 : ∀ w ∈ wsX20, w ∈ wsX2_isHashOf := by decide +kernel
  refine lv_aload_n hx hb dX2_isHashOf_0 rfl (lv_at hl 0 rfl) ?_
  refine lv_iload_n hx hb dX2_isHashOf_1 rfl (lv_at hl 1 rfl) ?_
  refine call_Vi (wr := ([] : va_W)) [.int x] [] ⟨hx, hb, hml, hown, hts⟩ hK hX hA hP hD hS (c_hasEntry l G _ a fm fh fw fb fc fd fr fp n k z t kn pl lf pn x (by omega) (by omega) (by omega) (by omega) (by omega) (by omega) (by omega)) (cwV 1 hts gX2_isHashOf_X2_hasEntry rfl rfl rfl (by decide +kernel) ⟨Nat.le_of_ble_eq_true rfl, Nat.le_of_ble_eq_true rfl⟩) 2 0 rfl rfl rfl [0, 1, 2, 3, 4, 5, 6, 7, 8, 9, 10] [] rfl rfl (by decide) (by decide) (by decide) rfl hl.1 (Nat.le_of_ble_eq_true rfl) dX2_isHashOf_2 ⟨Nat.zero_le _, Nat.zero_le _⟩ (fun r_1 u H locs hw hP hD hS => ?_)
  obtain rfl := hw
  have hP : va_P G.1 vwCl (wC G a fm fh fw fb fc fd fr fp n k z t kn pl lf pn) H := hP
  have hD : va_D A (wC G a fm fh fw fb fc fd fr fp n k z t kn pl lf pn) := hD
  refine lv_istore (lv' := [(4, .int (bI (p_ok x n))), (0, .ref (a 0)), (1, .int x), (2, .ref (a 7)), (3, .int (nI d))]) hx hb dX2_isHashOf_5 hl (by decide) rfl (fun ls hl => ?_)
  refine lv_iconst (v := nI 0) hx hb dX2_isHashOf_7 (by decide) ?_
  refine lv_istore (lv' := [(5, .int (nI 0)), (4, .int (bI (p_ok x n))), (0, .ref (a 0)), (1, .int x), (2, .ref (a 7)), (3, .int (nI d))]) hx hb dX2_isHashOf_8 hl (by decide) rfl (fun ls hl => ?_)
  suffices hloop1 : ∀ (fu1 : Nat) (i : Nat), (i ≤ 8) → (∀ j, j < i → p_iho fc n x fc d j = true) → 8 - i < fu1 → ∀ (H : Heap) (locs : List Loc) (ls : Array Slot), va_P G.1 vwCl (wC G a fm fh fw fb fc fd fr fp n k z t kn pl lf pn) H → va_D A (wC G a fm fh fw fb fc fd fr fp n k z t kn pl lf pn) → va_S A s.heap H locs → lv_has ls 7 [(0, .ref (a 0)), (1, .int x), (2, .ref (a 7)), (3, .int (nI d)), (4, .int (bI (p_ok x n))), (5, .int (nI i))] → W p l e ({ frames := 1, cells := 0, slots := 0, locals := 21 } : Room) s m args below meth c H locs 0 0 Q (F0 m 10 ls []) from hloop1 _ 0 (Nat.zero_le _) (fun j h => absurd h (Nat.not_lt_zero j)) (Nat.lt_succ_self _) _ _ _ hP hD hS (lv_sub hl [2, 3, 4, 5, 1, 0] rfl)
  clear hP hD hS hl
  intro fu1
  induction fu1 with
  | zero => intro i hi hm hfu; exact absurd hfu (Nat.not_lt_zero _)
  | succ fu1 ih1 =>
    intro i hi hm hfu1 H locs ls hP hD hS hl
    refine lv_iload hx hb dX2_isHashOf_10 (lv_at hl 5 rfl) ?_
    refine lv_bipush (v := nI 8) hx hb dX2_isHashOf_12 (by decide) ?_
    refine cmp_ge hx hb i 8 62 (by omega) (by omega) dX2_isHashOf_14 (by decide) (fun c14 => ?_) (fun c14 => ?_)
    · have e62 : i = 8 := by omega
      subst e62
      refine lv_iconst (v := nI 1) hx hb dX2_isHashOf_62 (by decide) ?_
      exact ret 63 _ _ _ (nI 1) () dX2_isHashOf_63 (by first | exact Or.inl rfl | exact Or.inr rfl) (al_T hm) hP hD hS
    · refine lv_iload hx hb dX2_isHashOf_17 (lv_at hl 4 rfl) ?_
      refine lv_if_eq (tgt := 40) hx hb dX2_isHashOf_19 (by decide) (fun c19 => ?_) (fun c19 => ?_)
      · refine lv_iconst (v := nI 0) hx hb dX2_isHashOf_40 (by decide) ?_
        refine lv_istore (lv' := [(6, .int (nI 0)), (0, .ref (a 0)), (1, .int x), (2, .ref (a 7)), (3, .int (nI d)), (4, .int (bI (p_ok x n))), (5, .int (nI i))]) hx hb dX2_isHashOf_41 hl (by decide) rfl (fun ls hl => ?_)
        refine lv_aload_n hx hb dX2_isHashOf_43 rfl (lv_at hl 3 rfl) ?_
        refine lv_iload_n hx hb dX2_isHashOf_44 rfl (lv_at hl 4 rfl) ?_
        refine lv_iload hx hb dX2_isHashOf_45 (lv_at hl 6 rfl) ?_
        refine ad_N hx hb d i dX2_isHashOf_47 ?_
        refine rd_i hx hb hK hP 7 rfl (d + i) (by omega) (by omega) dX2_isHashOf_48 ?_
        refine lv_iload hx hb dX2_isHashOf_49 (lv_at hl 0 rfl) ?_
        refine lv_icmp_eq (tgt := 56) hx hb dX2_isHashOf_51 (by decide) (fun c51 => ?_) (fun c51 => ?_)
        · refine lv_iinc (v := nI (i + 1)) (lv' := [(5, .int (nI (i + 1))), (6, .int (nI 0)), (0, .ref (a 0)), (1, .int x), (2, .ref (a 7)), (3, .int (nI d)), (4, .int (bI (p_ok x n)))]) hx hb dX2_isHashOf_56 hl (k := 6) rfl (inc_N i 1) (by decide) rfl (fun ls hl => ?_)
          refine lv_goto (tgt := 10) hx hb dX2_isHashOf_59 (by decide) ?_
          exact ih1 (i + 1) (by omega) (lt_s hm (decide_eq_true (c51.trans (hc_F (bI_z c19)).symm))) (by omega) _ _ _ hP hD hS (lv_sub hl [2, 3, 4, 5, 6, 0] rfl)
        · refine lv_iconst (v := nI 0) hx hb dX2_isHashOf_54 (by decide) ?_
          exact ret 55 _ _ _ (nI 0) () dX2_isHashOf_55 (by first | exact Or.inl rfl | exact Or.inr rfl) (al_F (i := i) (by omega) (fun z => c51 ((of_decide_eq_true z).trans (hc_F (bI_z c19))))) hP hD hS
      · obtain ⟨j, hj, rfl⟩ := ok_of (by omega) (bI_n c19)
        refine lv_aload_n hx hb dX2_isHashOf_22 rfl (lv_at hl 0 rfl) ?_
        refine va_get (D := G.1) (ci := 2) (v := .ref (a 7)) (C := RX2) (T := TX2) (N := 14) hx hb hts hiX2 hown hK hP 0 rfl rfl 2 (by decide) lk23 (fun _ h9 => h9) rfl dX2_isHashOf_23 ?_
        refine lv_iload_n hx hb dX2_isHashOf_26 rfl (lv_at hl 1 rfl) ?_
        refine lv_bipush (v := nI 34) hx hb dX2_isHashOf_27 (by decide) ?_
        refine mu_N hx hb j 34 dX2_isHashOf_29 ?_
        refine lv_bipush (v := nI 26) hx hb dX2_isHashOf_30 (by decide) ?_
        refine ad_N hx hb (j * 34) 26 dX2_isHashOf_32 ?_
        refine lv_iload hx hb dX2_isHashOf_33 (lv_at hl 5 rfl) ?_
        refine ad_N hx hb ((j * 34) + 26) i dX2_isHashOf_35 ?_
        refine rd_i hx hb hK hP 7 rfl (((j * 34) + 26) + i) (by omega) (by omega) dX2_isHashOf_36 ?_
        refine lv_goto (tgt := 41) hx hb dX2_isHashOf_37 (by decide) ?_
        refine lv_istore (lv' := [(6, .int (fc (((j * 34) + 26) + i))), (0, .ref (a 0)), (1, .int (nI j)), (2, .ref (a 7)), (3, .int (nI d)), (4, .int (bI (p_ok (nI j) n))), (5, .int (nI i))]) hx hb dX2_isHashOf_41 hl (by decide) rfl (fun ls hl => ?_)
        refine lv_aload_n hx hb dX2_isHashOf_43 rfl (lv_at hl 3 rfl) ?_
        refine lv_iload_n hx hb dX2_isHashOf_44 rfl (lv_at hl 4 rfl) ?_
        refine lv_iload hx hb dX2_isHashOf_45 (lv_at hl 6 rfl) ?_
        refine ad_N hx hb d i dX2_isHashOf_47 ?_
        refine rd_i hx hb hK hP 7 rfl (d + i) (by omega) (by omega) dX2_isHashOf_48 ?_
        refine lv_iload hx hb dX2_isHashOf_49 (lv_at hl 0 rfl) ?_
        refine lv_icmp_eq (tgt := 56) hx hb dX2_isHashOf_51 (by decide) (fun c51 => ?_) (fun c51 => ?_)
        · refine lv_iinc (v := nI (i + 1)) (lv' := [(5, .int (nI (i + 1))), (6, .int (fc (((j * 34) + 26) + i))), (0, .ref (a 0)), (1, .int (nI j)), (2, .ref (a 7)), (3, .int (nI d)), (4, .int (bI (p_ok (nI j) n)))]) hx hb dX2_isHashOf_56 hl (k := 6) rfl (inc_N i 1) (by decide) rfl (fun ls hl => ?_)
          refine lv_goto (tgt := 10) hx hb dX2_isHashOf_59 (by decide) ?_
          exact ih1 (i + 1) (by omega) (lt_s hm (decide_eq_true (c51.trans (hc_T hj hn).symm))) (by omega) _ _ _ hP hD hS (lv_sub hl [2, 3, 4, 5, 6, 0] rfl)
        · refine lv_iconst (v := nI 0) hx hb dX2_isHashOf_54 (by decide) ?_
          exact ret 55 _ _ _ (nI 0) () dX2_isHashOf_55 (by first | exact Or.inl rfl | exact Or.inr rfl) (al_F (i := i) (by omega) (fun z => c51 ((of_decide_eq_true z).trans (hc_T hj hn)))) hP hD hS
set_option maxHeartbeats 4000000 in
set_option maxRecDepth 100000 in
theorem c_isHashOf_d (l : Launch) (G : gG) (sz : Nat) (a : Nat → Nat) (fm fh fw fb fc fd fr fp : Nat → Int32) (n k z t : Nat) (kn : Int32) (pl lf pn : Nat) (x : Int32) (d : Nat) (hn : n ≤ 60) (hk : k ≤ 8) (hz : z ≤ 20) (ht : t ≤ 100000) (hpl : pl ≤ 60) (hlf : lf ≤ 6) (hpn : pn ≤ 1560) (hd : d + 8 ≤ 8) : MetI l yX2_isHashOf wsX2_isHashOf ({ frames := 1, cells := 0, slots := 0, locals := 21 } : Room) [.ref (a 0), .int x, .ref (a 8), .int (nI d)] G (wC G a fm fh fw fb fc fd fr fp n k z t kn pl lf pn) sz (fun _ : Unit => wC G a fm fh fw fb fc fd fr fp n k z t kn pl lf pn) (fun r _ => r = bI (allN (p_iho fc n x fd d) 8)) := by
  refine ent_z _ cX2_isHashOf 7 RX2 (by decide) rfl rfl (Nat.le_of_ble_eq_true rfl) ?_
  intro p e s m args below meth c A Q ls hx hb hml hts hown hA hK hX ret hl hP hD hS
  have hl : lv_has ls 7 [(0, .ref (a 0)), (1, .int x), (2, .ref (a 8)), (3, .int (nI d))] := hl
  have lk23 := hts (.fieldLink RX2 23 "MinedLedger" "cells" "[I") (by decide +kernel)
  have hiX2 : ∀ w ∈ wsX20, w ∈ wsX2_isHashOf := by decide +kernel
  refine lv_aload_n hx hb dX2_isHashOf_0 rfl (lv_at hl 0 rfl) ?_
  refine lv_iload_n hx hb dX2_isHashOf_1 rfl (lv_at hl 1 rfl) ?_
  refine call_Vi (wr := ([] : va_W)) [.int x] [] ⟨hx, hb, hml, hown, hts⟩ hK hX hA hP hD hS (c_hasEntry l G _ a fm fh fw fb fc fd fr fp n k z t kn pl lf pn x (by omega) (by omega) (by omega) (by omega) (by omega) (by omega) (by omega)) (cwV 1 hts gX2_isHashOf_X2_hasEntry rfl rfl rfl (by decide +kernel) ⟨Nat.le_of_ble_eq_true rfl, Nat.le_of_ble_eq_true rfl⟩) 2 0 rfl rfl rfl [0, 1, 2, 3, 4, 5, 6, 7, 8, 9, 10] [] rfl rfl (by decide) (by decide) (by decide) rfl hl.1 (Nat.le_of_ble_eq_true rfl) dX2_isHashOf_2 ⟨Nat.zero_le _, Nat.zero_le _⟩ (fun r_1 u H locs hw hP hD hS => ?_)
  obtain rfl := hw
  have hP : va_P G.1 vwCl (wC G a fm fh fw fb fc fd fr fp n k z t kn pl lf pn) H := hP
  have hD : va_D A (wC G a fm fh fw fb fc fd fr fp n k z t kn pl lf pn) := hD
  refine lv_istore (lv' := [(4, .int (bI (p_ok x n))), (0, .ref (a 0)), (1, .int x), (2, .ref (a 8)), (3, .int (nI d))]) hx hb dX2_isHashOf_5 hl (by decide) rfl (fun ls hl => ?_)
  refine lv_iconst (v := nI 0) hx hb dX2_isHashOf_7 (by decide) ?_
  refine lv_istore (lv' := [(5, .int (nI 0)), (4, .int (bI (p_ok x n))), (0, .ref (a 0)), (1, .int x), (2, .ref (a 8)), (3, .int (nI d))]) hx hb dX2_isHashOf_8 hl (by decide) rfl (fun ls hl => ?_)
  suffices hloop1 : ∀ (fu1 : Nat) (i : Nat), (i ≤ 8) → (∀ j, j < i → p_iho fc n x fd d j = true) → 8 - i < fu1 → ∀ (H : Heap) (locs : List Loc) (ls : Array Slot), va_P G.1 vwCl (wC G a fm fh fw fb fc fd fr fp n k z t kn pl lf pn) H → va_D A (wC G a fm fh fw fb fc fd fr fp n k z t kn pl lf pn) → va_S A s.heap H locs → lv_has ls 7 [(0, .ref (a 0)), (1, .int x), (2, .ref (a 8)), (3, .int (nI d)), (4, .int (bI (p_ok x n))), (5, .int (nI i))] → W p l e ({ frames := 1, cells := 0, slots := 0, locals := 21 } : Room) s m args below meth c H locs 0 0 Q (F0 m 10 ls []) from hloop1 _ 0 (Nat.zero_le _) (fun j h => absurd h (Nat.not_lt_zero j)) (Nat.lt_succ_self _) _ _ _ hP hD hS (lv_sub hl [2, 3, 4, 5, 1, 0] rfl)
  clear hP hD hS hl
  intro fu1
  induction fu1 with
  | zero => intro i hi hm hfu; exact absurd hfu (Nat.not_lt_zero _)
  | succ fu1 ih1 =>
    intro i hi hm hfu1 H locs ls hP hD hS hl
    refine lv_iload hx hb dX2_isHashOf_10 (lv_at hl 5 rfl) ?_
    refine lv_bipush (v := nI 8) hx hb dX2_isHashOf_12 (by decide) ?_
    refine cmp_ge hx hb i 8 62 (by omega) (by omega) dX2_isHashOf_14 (by decide) (fun c14 => ?_) (fun c14 => ?_)
    · have e62 : i = 8 := by omega
      subst e62
      refine lv_iconst (v := nI 1) hx hb dX2_isHashOf_62 (by decide) ?_
      exact ret 63 _ _ _ (nI 1) () dX2_isHashOf_63 (by first | exact Or.inl rfl | exact Or.inr rfl) (al_T hm) hP hD hS
    · refine lv_iload hx hb dX2_isHashOf_17 (lv_at hl 4 rfl) ?_
      refine lv_if_eq (tgt := 40) hx hb dX2_isHashOf_19 (by decide) (fun c19 => ?_) (fun c19 => ?_)
      · refine lv_iconst (v := nI 0) hx hb dX2_isHashOf_40 (by decide) ?_
        refine lv_istore (lv' := [(6, .int (nI 0)), (0, .ref (a 0)), (1, .int x), (2, .ref (a 8)), (3, .int (nI d)), (4, .int (bI (p_ok x n))), (5, .int (nI i))]) hx hb dX2_isHashOf_41 hl (by decide) rfl (fun ls hl => ?_)
        refine lv_aload_n hx hb dX2_isHashOf_43 rfl (lv_at hl 3 rfl) ?_
        refine lv_iload_n hx hb dX2_isHashOf_44 rfl (lv_at hl 4 rfl) ?_
        refine lv_iload hx hb dX2_isHashOf_45 (lv_at hl 6 rfl) ?_
        refine ad_N hx hb d i dX2_isHashOf_47 ?_
        refine rd_i hx hb hK hP 8 rfl (d + i) (by omega) (by omega) dX2_isHashOf_48 ?_
        refine lv_iload hx hb dX2_isHashOf_49 (lv_at hl 0 rfl) ?_
        refine lv_icmp_eq (tgt := 56) hx hb dX2_isHashOf_51 (by decide) (fun c51 => ?_) (fun c51 => ?_)
        · refine lv_iinc (v := nI (i + 1)) (lv' := [(5, .int (nI (i + 1))), (6, .int (nI 0)), (0, .ref (a 0)), (1, .int x), (2, .ref (a 8)), (3, .int (nI d)), (4, .int (bI (p_ok x n)))]) hx hb dX2_isHashOf_56 hl (k := 6) rfl (inc_N i 1) (by decide) rfl (fun ls hl => ?_)
          refine lv_goto (tgt := 10) hx hb dX2_isHashOf_59 (by decide) ?_
          exact ih1 (i + 1) (by omega) (lt_s hm (decide_eq_true (c51.trans (hc_F (bI_z c19)).symm))) (by omega) _ _ _ hP hD hS (lv_sub hl [2, 3, 4, 5, 6, 0] rfl)
        · refine lv_iconst (v := nI 0) hx hb dX2_isHashOf_54 (by decide) ?_
          exact ret 55 _ _ _ (nI 0) () dX2_isHashOf_55 (by first | exact Or.inl rfl | exact Or.inr rfl) (al_F (i := i) (by omega) (fun z => c51 ((of_decide_eq_true z).trans (hc_F (bI_z c19))))) hP hD hS
      · obtain ⟨j, hj, rfl⟩ := ok_of (by omega) (bI_n c19)
        refine lv_aload_n hx hb dX2_isHashOf_22 rfl (lv_at hl 0 rfl) ?_
        refine va_get (D := G.1) (ci := 2) (v := .ref (a 7)) (C := RX2) (T := TX2) (N := 14) hx hb hts hiX2 hown hK hP 0 rfl rfl 2 (by decide) lk23 (fun _ h9 => h9) rfl dX2_isHashOf_23 ?_
        refine lv_iload_n hx hb dX2_isHashOf_26 rfl (lv_at hl 1 rfl) ?_
        refine lv_bipush (v := nI 34) hx hb dX2_isHashOf_27 (by decide) ?_
        refine mu_N hx hb j 34 dX2_isHashOf_29 ?_
        refine lv_bipush (v := nI 26) hx hb dX2_isHashOf_30 (by decide) ?_
        refine ad_N hx hb (j * 34) 26 dX2_isHashOf_32 ?_
        refine lv_iload hx hb dX2_isHashOf_33 (lv_at hl 5 rfl) ?_
        refine ad_N hx hb ((j * 34) + 26) i dX2_isHashOf_35 ?_
        refine rd_i hx hb hK hP 7 rfl (((j * 34) + 26) + i) (by omega) (by omega) dX2_isHashOf_36 ?_
        refine lv_goto (tgt := 41) hx hb dX2_isHashOf_37 (by decide) ?_
        refine lv_istore (lv' := [(6, .int (fc (((j * 34) + 26) + i))), (0, .ref (a 0)), (1, .int (nI j)), (2, .ref (a 8)), (3, .int (nI d)), (4, .int (bI (p_ok (nI j) n))), (5, .int (nI i))]) hx hb dX2_isHashOf_41 hl (by decide) rfl (fun ls hl => ?_)
        refine lv_aload_n hx hb dX2_isHashOf_43 rfl (lv_at hl 3 rfl) ?_
        refine lv_iload_n hx hb dX2_isHashOf_44 rfl (lv_at hl 4 rfl) ?_
        refine lv_iload hx hb dX2_isHashOf_45 (lv_at hl 6 rfl) ?_
        refine ad_N hx hb d i dX2_isHashOf_47 ?_
        refine rd_i hx hb hK hP 8 rfl (d + i) (by omega) (by omega) dX2_isHashOf_48 ?_
        refine lv_iload hx hb dX2_isHashOf_49 (lv_at hl 0 rfl) ?_
        refine lv_icmp_eq (tgt := 56) hx hb dX2_isHashOf_51 (by decide) (fun c51 => ?_) (fun c51 => ?_)
        · refine lv_iinc (v := nI (i + 1)) (lv' := [(5, .int (nI (i + 1))), (6, .int (fc (((j * 34) + 26) + i))), (0, .ref (a 0)), (1, .int (nI j)), (2, .ref (a 8)), (3, .int (nI d)), (4, .int (bI (p_ok (nI j) n)))]) hx hb dX2_isHashOf_56 hl (k := 6) rfl (inc_N i 1) (by decide) rfl (fun ls hl => ?_)
          refine lv_goto (tgt := 10) hx hb dX2_isHashOf_59 (by decide) ?_
          exact ih1 (i + 1) (by omega) (lt_s hm (decide_eq_true (c51.trans (hc_T hj hn).symm))) (by omega) _ _ _ hP hD hS (lv_sub hl [2, 3, 4, 5, 6, 0] rfl)
        · refine lv_iconst (v := nI 0) hx hb dX2_isHashOf_54 (by decide) ?_
          exact ret 55 _ _ _ (nI 0) () dX2_isHashOf_55 (by first | exact Or.inl rfl | exact Or.inr rfl) (al_F (i := i) (by omega) (fun z => c51 ((of_decide_eq_true z).trans (hc_T hj hn)))) hP hD hS
set_option maxHeartbeats 4000000 in
set_option maxRecDepth 100000 in
theorem c_auditHead (l : Launch) (G : gG) (sz : Nat) (a : Nat → Nat) (fm fh fw fb fc fd fr fp : Nat → Int32) (n k z t : Nat) (kn : Int32) (pl lf pn : Nat)  (hn : n ≤ 60) (hk : k ≤ 8) (hz : z ≤ 20) (ht : t ≤ 100000) (hpl : pl ≤ 60) (hlf : lf ≤ 6) (hpn : pn ≤ 1560)  : MetI l yX2_auditHead wsX2_auditHead ({ frames := 2, cells := 0, slots := 0, locals := 47 } : Room) [.ref (a 0)] G (wC G a fm fh fw fb fc fd fr fp n k z t kn pl lf pn) sz (fun u : Nat => wC G a fm fh fw fb fc fd fr fp n k z t kn pl u pn) (fun r u => (fun r lf2 => (p_hdr fc fd n = true ∧ r = (-5) ∧ lf2 = lf) ∨ (p_hdr fc fd n = false ∧ r = nI (n - 1) ∧ lf2 = if n = 0 then 6 else 5)) r u) := by
  refine ent_i _ cX2_auditHead 1 RX2 (by decide) rfl rfl (Nat.le_of_ble_eq_true rfl) ?_
  intro p e s m args below meth c A Q ls hx hb hml hts hown hA hK hX ret hl hP hD hS
  have hl : lv_has ls 1 [(0, .ref (a 0))] := hl
  have lk27 := hts (.fieldLink RX2 27 "MinedLedger" "headWords" "[I") (by decide +kernel)
  have lk36 := hts (.fieldLink RX2 36 "MinedLedger" "entryCount" "I") (by decide +kernel)
  have lk64 := hts (.fieldLink RX2 64 "MinedLedger" "latestFault" "I") (by decide +kernel)
  have hiX2 : ∀ w ∈ wsX20, w ∈ wsX2_auditHead := by decide +kernel
  refine lv_aload_n hx hb dX2_auditHead_0 rfl (lv_at hl 0 rfl) ?_
  refine lv_aload_n hx hb dX2_auditHead_1 rfl (lv_at hl 0 rfl) ?_
  refine va_get (D := G.1) (ci := 2) (v := .int (nI n)) (C := RX2) (T := TX2) (N := 14) hx hb hts hiX2 hown hK hP 0 rfl rfl 6 (by decide) lk36 (fun _ h9 => h9) rfl dX2_auditHead_2 ?_
  refine lv_iconst (v := nI 1) hx hb dX2_auditHead_5 (by decide) ?_
  refine lv_isub hx hb dX2_auditHead_6 ?_
  refine lv_aload_n hx hb dX2_auditHead_7 rfl (lv_at hl 0 rfl) ?_
  refine va_get (D := G.1) (ci := 2) (v := .ref (a 8)) (C := RX2) (T := TX2) (N := 14) hx hb hts hiX2 hown hK hP 0 rfl rfl 3 (by decide) lk27 (fun _ h9 => h9) rfl dX2_auditHead_8 ?_
  refine lv_iconst (v := nI 0) hx hb dX2_auditHead_11 (by decide) ?_
  refine call_Vi (wr := ([] : va_W)) [.int (nI n - nI 1), .ref (a 8), .int (nI 0)] [] ⟨hx, hb, hml, hown, hts⟩ hK hX hA hP hD hS (c_isHashOf_d l G _ a fm fh fw fb fc fd fr fp n k z t kn pl lf pn (nI n - nI 1) 0 (by omega) (by omega) (by omega) (by omega) (by omega) (by omega) (by omega) (by omega)) (cwV 3 hts gX2_auditHead_X2_isHashOf rfl rfl rfl (by decide +kernel) ⟨Nat.le_of_ble_eq_true rfl, Nat.le_of_ble_eq_true rfl⟩) 2 0 rfl rfl rfl [0, 1, 2, 3, 4, 5, 6, 7, 8, 9, 10] [] rfl rfl (by decide) (by decide) (by decide) rfl hl.1 (Nat.le_of_ble_eq_true rfl) dX2_auditHead_12 ⟨Nat.zero_le _, Nat.zero_le _⟩ (fun r_1 u H locs hw hP hD hS => ?_)
  obtain rfl := hw
  have hP : va_P G.1 vwCl (wC G a fm fh fw fb fc fd fr fp n k z t kn pl lf pn) H := hP
  have hD : va_D A (wC G a fm fh fw fb fc fd fr fp n k z t kn pl lf pn) := hD
  refine lv_if_eq (tgt := 21) hx hb dX2_auditHead_15 (by decide) (fun c15 => ?_) (fun c15 => ?_)
  · refine lv_aload_n hx hb dX2_auditHead_21 rfl (lv_at hl 0 rfl) ?_
    refine lv_aload_n hx hb dX2_auditHead_22 rfl (lv_at hl 0 rfl) ?_
    refine va_get (D := G.1) (ci := 2) (v := .int (nI n)) (C := RX2) (T := TX2) (N := 14) hx hb hts hiX2 hown hK hP 0 rfl rfl 6 (by decide) lk36 (fun _ h9 => h9) rfl dX2_auditHead_23 ?_
    refine if0_ne hx hb n 34 (by omega) dX2_auditHead_26 (by decide) (fun c26 => ?_) (fun c26 => ?_)
    · refine lv_iconst (v := nI 5) hx hb dX2_auditHead_34 (by decide) ?_
      refine va_put (D := G.1) (ci := 2) (v := .int (nI 5)) (ty := .int) (C := RX2) (T := TX2) (N := 14) hx hb hts hiX2 tyX2 tyX2_ok nmX2 hown hK hP hD hS 0 rfl rfl 12 (by decide) lk64 (fun _ h9 => h9) rfl (by decide +kernel) rfl rfl (Nat.le_of_ble_eq_true rfl) dX2_auditHead_35 (fun H locs hP hD hS => ?_)
      have hP : va_P G.1 vwCl (wC G a fm fh fw fb fc fd fr fp n k z t kn pl 5 pn) H := hP
      have hD : va_D A (wC G a fm fh fw fb fc fd fr fp n k z t kn pl 5 pn) := hD
      refine lv_iconst (v := nI 0) hx hb dX2_auditHead_38 (by decide) ?_
      refine lv_aload_n hx hb dX2_auditHead_39 rfl (lv_at hl 0 rfl) ?_
      refine va_get (D := G.1) (ci := 2) (v := .int (nI n)) (C := RX2) (T := TX2) (N := 14) hx hb hts hiX2 hown hK hP 0 rfl rfl 6 (by decide) lk36 (fun _ h9 => h9) rfl dX2_auditHead_40 ?_
      refine lv_iconst (v := nI 1) hx hb dX2_auditHead_43 (by decide) ?_
      refine lv_isub hx hb dX2_auditHead_44 ?_
      refine va_mmax (x := nI 0) (y := (nI n - nI 1)) hx hb (by rw [hml]; exact hl.1.symm) hown (hts (.methodLink RX2 49 Lib.Math.max.name) (by decide +kernel)) (hts (.static Lib.Math.max.name) (by decide +kernel)) (hts (.initialized "java/lang/Math") (by decide +kernel)) (hts (.code Lib.Math.max.name Lib.Math.max.code 2 (some .int)) (by decide +kernel)) (Nat.le_of_ble_eq_true rfl) (Nat.le_of_ble_eq_true rfl) (Nat.zero_le _) (Nat.zero_le _) dX2_auditHead_45 ?_
      refine top_i (nI (n - 1)) (mx_eq hn) ?_
      exact ret 48 _ _ _ (nI (n - 1)) 5 dX2_auditHead_48 (Or.inr ⟨bI_z c15, rfl, by rw [if_neg (by omega)]⟩) hP hD hS
    · refine lv_bipush (v := nI 6) hx hb dX2_auditHead_29 (by decide) ?_
      refine lv_goto (tgt := 35) hx hb dX2_auditHead_31 (by decide) ?_
      refine va_put (D := G.1) (ci := 2) (v := .int (nI 6)) (ty := .int) (C := RX2) (T := TX2) (N := 14) hx hb hts hiX2 tyX2 tyX2_ok nmX2 hown hK hP hD hS 0 rfl rfl 12 (by decide) lk64 (fun _ h9 => h9) rfl (by decide +kernel) rfl rfl (Nat.le_of_ble_eq_true rfl) dX2_auditHead_35 (fun H locs hP hD hS => ?_)
      have hP : va_P G.1 vwCl (wC G a fm fh fw fb fc fd fr fp n k z t kn pl 6 pn) H := hP
      have hD : va_D A (wC G a fm fh fw fb fc fd fr fp n k z t kn pl 6 pn) := hD
      refine lv_iconst (v := nI 0) hx hb dX2_auditHead_38 (by decide) ?_
      refine lv_aload_n hx hb dX2_auditHead_39 rfl (lv_at hl 0 rfl) ?_
      refine va_get (D := G.1) (ci := 2) (v := .int (nI n)) (C := RX2) (T := TX2) (N := 14) hx hb hts hiX2 hown hK hP 0 rfl rfl 6 (by decide) lk36 (fun _ h9 => h9) rfl dX2_auditHead_40 ?_
      refine lv_iconst (v := nI 1) hx hb dX2_auditHead_43 (by decide) ?_
      refine lv_isub hx hb dX2_auditHead_44 ?_
      refine va_mmax (x := nI 0) (y := (nI n - nI 1)) hx hb (by rw [hml]; exact hl.1.symm) hown (hts (.methodLink RX2 49 Lib.Math.max.name) (by decide +kernel)) (hts (.static Lib.Math.max.name) (by decide +kernel)) (hts (.initialized "java/lang/Math") (by decide +kernel)) (hts (.code Lib.Math.max.name Lib.Math.max.code 2 (some .int)) (by decide +kernel)) (Nat.le_of_ble_eq_true rfl) (Nat.le_of_ble_eq_true rfl) (Nat.zero_le _) (Nat.zero_le _) dX2_auditHead_45 ?_
      refine top_i (nI (n - 1)) (mx_eq hn) ?_
      exact ret 48 _ _ _ (nI (n - 1)) 6 dX2_auditHead_48 (Or.inr ⟨bI_z c15, rfl, by rw [if_pos c26]⟩) hP hD hS
  · refine lv_bipush (v := (-5)) hx hb dX2_auditHead_18 (by decide) ?_
    exact ret 20 _ _ _ (-5) lf dX2_auditHead_20 (Or.inl ⟨bI_n c15, rfl, rfl⟩) hP hD hS
set_option maxHeartbeats 4000000 in
set_option maxRecDepth 100000 in
theorem c_faultOf (l : Launch) (G : gG) (sz : Nat) (a : Nat → Nat) (fm fh fw fb fc fd fr fp : Nat → Int32) (n k z t : Nat) (kn : Int32) (pl lf pn : Nat) (y : Nat) (hn : n ≤ 60) (hk : k ≤ 8) (hz : z ≤ 20) (ht : t ≤ 100000) (hpl : pl ≤ 60) (hlf : lf ≤ 6) (hpn : pn ≤ 1560) (hy : y < n) : MetI l yX2_faultOf wsX2_faultOf ({ frames := 5, cells := 0, slots := 0, locals := 121 } : Room) [.ref (a 0), .int (nI y)] G (wC G a fm fh fw fb fc fd fr fp n k z t kn pl lf pn) sz (fun u : (Nat → Int32) × (Nat → Int32) × (Nat → Int32) => wC G a u.1 u.2.1 u.2.2 fb fc fd fr fp n k z t kn pl lf pn) (fun r u => (fun r _ _ _ => r = nI (p_flt fc n y)) r u.1 u.2.1 u.2.2) := by
  refine ent_i _ cX2_faultOf 3 RX2 (by decide) rfl rfl (Nat.le_of_ble_eq_true rfl) ?_
  intro p e s m args below meth c A Q ls hx hb hml hts hown hA hK hX ret hl hP hD hS
  have hl : lv_has ls 3 [(0, .ref (a 0)), (1, .int (nI y))] := hl
  have lk10 := hts (.fieldLink RX2 10 "MinedLedger" "hasher" "LMinedLedger$Hasher;") (by decide +kernel)
  have lk23 := hts (.fieldLink RX2 23 "MinedLedger" "cells" "[I") (by decide +kernel)
  have hiX2 : ∀ w ∈ wsX20, w ∈ wsX2_faultOf := by decide +kernel
  refine lv_iload_n hx hb dX2_faultOf_0 rfl (lv_at hl 1 rfl) ?_
  refine lv_bipush (v := nI 34) hx hb dX2_faultOf_1 (by decide) ?_
  refine mu_N hx hb y 34 dX2_faultOf_3 ?_
  refine lv_istore_n (lv' := [(2, .int (nI (y * 34))), (0, .ref (a 0)), (1, .int (nI y))]) hx hb dX2_faultOf_4 rfl hl (by decide) rfl (fun ls hl => ?_)
  refine lv_aload_n hx hb dX2_faultOf_5 rfl (lv_at hl 1 rfl) ?_
  refine lv_iload_n hx hb dX2_faultOf_6 rfl (lv_at hl 2 rfl) ?_
  refine lv_iconst (v := nI 1) hx hb dX2_faultOf_7 (by decide) ?_
  refine lv_isub hx hb dX2_faultOf_8 ?_
  refine lv_aload_n hx hb dX2_faultOf_9 rfl (lv_at hl 1 rfl) ?_
  refine va_get (D := G.1) (ci := 2) (v := .ref (a 7)) (C := RX2) (T := TX2) (N := 14) hx hb hts hiX2 hown hK hP 0 rfl rfl 2 (by decide) lk23 (fun _ h9 => h9) rfl dX2_faultOf_10 ?_
  refine lv_iload_n hx hb dX2_faultOf_13 rfl (lv_at hl 0 rfl) ?_
  refine lv_iconst (v := nI 0) hx hb dX2_faultOf_14 (by decide) ?_
  refine ad_N hx hb (y * 34) 0 dX2_faultOf_15 ?_
  refine call_Vi (wr := ([] : va_W)) [.int (nI y - nI 1), .ref (a 7), .int (nI ((y * 34) + 0))] [] ⟨hx, hb, hml, hown, hts⟩ hK hX hA hP hD hS (c_isHashOf_c l G _ a fm fh fw fb fc fd fr fp n k z t kn pl lf pn (nI y - nI 1) ((y * 34) + 0) (by omega) (by omega) (by omega) (by omega) (by omega) (by omega) (by omega) (by omega)) (cwV 3 hts gX2_faultOf_X2_isHashOf rfl rfl rfl (by decide +kernel) ⟨Nat.le_of_ble_eq_true rfl, Nat.le_of_ble_eq_true rfl⟩) 2 0 rfl rfl rfl [0, 1, 2, 3, 4, 5, 6, 7, 8, 9, 10] [] rfl rfl (by decide) (by decide) (by decide) rfl hl.1 (Nat.le_of_ble_eq_true rfl) dX2_faultOf_16 ⟨Nat.zero_le _, Nat.zero_le _⟩ (fun r_1 u H locs hw hP hD hS => ?_)
  obtain rfl := hw
  have hP : va_P G.1 vwCl (wC G a fm fh fw fb fc fd fr fp n k z t kn pl lf pn) H := hP
  have hD : va_D A (wC G a fm fh fw fb fc fd fr fp n k z t kn pl lf pn) := hD
  refine lv_if_ne (tgt := 24) hx hb dX2_faultOf_19 (by decide) (fun c19 => ?_) (fun c19 => ?_)
  · refine lv_aload_n hx hb dX2_faultOf_24 rfl (lv_at hl 1 rfl) ?_
    refine lv_iload_n hx hb dX2_faultOf_25 rfl (lv_at hl 2 rfl) ?_
    refine call_Si (wr := ([(a 0, .inr (2, [.ref (a 1), .ref (a 5), .ref (a 7), .ref (a 8), .ref (a 9), .ref (a 10), .int (nI n), .int (nI k), .int (nI z), .int (nI t), .int kn, .int (nI pl), .int (nI lf), .int (nI pn)])), (a 1, .inr (1, [.ref (a 2), .ref (a 3), .ref (a 4)])), (a 2, .inl (G.2.2.1, 8, .inl fm)), (a 3, .inl (G.2.2.1, 8, .inl fh)), (a 4, .inl (G.2.2.1, 64, .inl fw)), (a 5, .inr (0, [.ref (a 6)])), (a 6, .inl (G.2.2.1, 32, .inl fb)), (a 7, .inl (G.2.2.1, 2040, .inl fc)), (a 8, .inl (G.2.2.1, 8, .inl fd)), (a 9, .inl (G.2.2.1, 34, .inl fr)), (a 10, .inl (G.2.2.1, 1560, .inl fp))] : va_W)) [.int (nI y)] [.ref (a 0)] ⟨hx, hb, hml, hown, hts⟩ hK hX hA hP hD hS (c_skipOf l G _ y (by omega)) (va_cwS 1 hts gX2_faultOf_X2_skipOf rfl rfl rfl (by decide +kernel) ⟨Nat.le_of_ble_eq_true rfl, Nat.le_of_ble_eq_true rfl⟩) [] [0, 1, 2, 3, 4, 5, 6, 7, 8, 9, 10] rfl rfl (by decide) (by decide) (by decide) rfl hl.1 (Nat.le_of_ble_eq_true rfl) dX2_faultOf_26 ⟨Nat.zero_le _, Nat.zero_le _⟩ (fun r_3 u H locs hw hP hD hS => ?_)
    obtain rfl := hw
    have hP : va_P G.1 vwCl (wC G a fm fh fw fb fc fd fr fp n k z t kn pl lf pn) H := hP
    have hD : va_D A (wC G a fm fh fw fb fc fd fr fp n k z t kn pl lf pn) := hD
    refine lv_aload_n hx hb dX2_faultOf_29 rfl (lv_at hl 1 rfl) ?_
    refine va_get (D := G.1) (ci := 2) (v := .ref (a 7)) (C := RX2) (T := TX2) (N := 14) hx hb hts hiX2 hown hK hP 0 rfl rfl 2 (by decide) lk23 (fun _ h9 => h9) rfl dX2_faultOf_30 ?_
    refine lv_iload_n hx hb dX2_faultOf_33 rfl (lv_at hl 0 rfl) ?_
    refine lv_bipush (v := nI 8) hx hb dX2_faultOf_34 (by decide) ?_
    refine ad_N hx hb (y * 34) 8 dX2_faultOf_36 ?_
    refine call_Vi (wr := ([] : va_W)) [.int (p_skI y), .ref (a 7), .int (nI ((y * 34) + 8))] [] ⟨hx, hb, hml, hown, hts⟩ hK hX hA hP hD hS (c_isHashOf_c l G _ a fm fh fw fb fc fd fr fp n k z t kn pl lf pn (p_skI y) ((y * 34) + 8) (by omega) (by omega) (by omega) (by omega) (by omega) (by omega) (by omega) (by omega)) (cwV 3 hts gX2_faultOf_X2_isHashOf rfl rfl rfl (by decide +kernel) ⟨Nat.le_of_ble_eq_true rfl, Nat.le_of_ble_eq_true rfl⟩) 2 0 rfl rfl rfl [0, 1, 2, 3, 4, 5, 6, 7, 8, 9, 10] [] rfl rfl (by decide) (by decide) (by decide) rfl hl.1 (Nat.le_of_ble_eq_true rfl) dX2_faultOf_37 ⟨Nat.zero_le _, Nat.zero_le _⟩ (fun r_4 u H locs hw hP hD hS => ?_)
    obtain rfl := hw
    have hP : va_P G.1 vwCl (wC G a fm fh fw fb fc fd fr fp n k z t kn pl lf pn) H := hP
    have hD : va_D A (wC G a fm fh fw fb fc fd fr fp n k z t kn pl lf pn) := hD
    refine lv_if_ne (tgt := 45) hx hb dX2_faultOf_40 (by decide) (fun c40 => ?_) (fun c40 => ?_)
    · refine lv_aload_n hx hb dX2_faultOf_45 rfl (lv_at hl 1 rfl) ?_
      refine va_get (D := G.1) (ci := 2) (v := .ref (a 1)) (C := RX2) (T := TX2) (N := 14) hx hb hts hiX2 hown hK hP 0 rfl rfl 0 (by decide) lk10 (fun _ h9 => h9) rfl dX2_faultOf_46 ?_
      refine lv_aload_n hx hb dX2_faultOf_49 rfl (lv_at hl 1 rfl) ?_
      refine va_get (D := G.1) (ci := 2) (v := .ref (a 7)) (C := RX2) (T := TX2) (N := 14) hx hb hts hiX2 hown hK hP 0 rfl rfl 2 (by decide) lk23 (fun _ h9 => h9) rfl dX2_faultOf_50 ?_
      refine lv_iload_n hx hb dX2_faultOf_53 rfl (lv_at hl 0 rfl) ?_
      refine call_Vv (wr := ([(a 0, .inr (2, [.ref (a 1), .ref (a 5), .ref (a 7), .ref (a 8), .ref (a 9), .ref (a 10), .int (nI n), .int (nI k), .int (nI z), .int (nI t), .int kn, .int (nI pl), .int (nI lf), .int (nI pn)])), (a 5, .inr (0, [.ref (a 6)])), (a 6, .inl (G.2.2.1, 32, .inl fb)), (a 8, .inl (G.2.2.1, 8, .inl fd)), (a 9, .inl (G.2.2.1, 34, .inl fr)), (a 10, .inl (G.2.2.1, 1560, .inl fp))] : va_W)) [.ref (a 7), .int (nI (y * 34))] [] ⟨hx, hb, hml, hown, hts⟩ hK hX hA hP hD hS (c_takeAll l G _ (a 1) (a 2) (a 3) (a 4) (a 7) 2040 (y * 34) fm fh fw fc (by omega) (by omega)) (cwV 2 hts gX2_faultOf_X1_takeAll rfl rfl rfl (by decide +kernel) ⟨Nat.le_of_ble_eq_true rfl, Nat.le_of_ble_eq_true rfl⟩) 1 1 rfl rfl rfl [1, 2, 3, 4, 7] [0, 5, 6, 8, 9, 10] rfl rfl (by decide) (by decide) (by decide) rfl hl.1 (Nat.le_of_ble_eq_true rfl) dX2_faultOf_54 ⟨Nat.zero_le _, Nat.zero_le _⟩ (fun u H locs hw hP hD hS => ?_)
      obtain ⟨mu_7, yu_7, wu_7⟩ := u
      have hu_7 : ∀ j, j < 8 → yu_7 j = p_hash fc (y * 34) j := hw
      have hP : va_P G.1 vwCl (wC G a mu_7 yu_7 wu_7 fb fc fd fr fp n k z t kn pl lf pn) H := hP.sub [0, 6, 7, 8, 9, 1, 2, 10, 3, 4, 5] rfl
      have hD : va_D A (wC G a mu_7 yu_7 wu_7 fb fc fd fr fp n k z t kn pl lf pn) := hD.sub [0, 6, 7, 8, 9, 1, 2, 10, 3, 4, 5] (by decide) rfl
      refine lv_aload_n hx hb dX2_faultOf_57 rfl (lv_at hl 1 rfl) ?_
      refine va_get (D := G.1) (ci := 2) (v := .ref (a 1)) (C := RX2) (T := TX2) (N := 14) hx hb hts hiX2 hown hK hP 0 rfl rfl 0 (by decide) lk10 (fun _ h9 => h9) rfl dX2_faultOf_58 ?_
      refine lv_aload_n hx hb dX2_faultOf_61 rfl (lv_at hl 1 rfl) ?_
      refine va_get (D := G.1) (ci := 2) (v := .ref (a 7)) (C := RX2) (T := TX2) (N := 14) hx hb hts hiX2 hown hK hP 0 rfl rfl 2 (by decide) lk23 (fun _ h9 => h9) rfl dX2_faultOf_62 ?_
      refine lv_iload_n hx hb dX2_faultOf_65 rfl (lv_at hl 0 rfl) ?_
      refine lv_bipush (v := nI 26) hx hb dX2_faultOf_66 (by decide) ?_
      refine ad_N hx hb (y * 34) 26 dX2_faultOf_68 ?_
      refine call_Vi (wr := ([(a 0, .inr (2, [.ref (a 1), .ref (a 5), .ref (a 7), .ref (a 8), .ref (a 9), .ref (a 10), .int (nI n), .int (nI k), .int (nI z), .int (nI t), .int kn, .int (nI pl), .int (nI lf), .int (nI pn)])), (a 2, .inl (G.2.2.1, 8, .inl mu_7)), (a 4, .inl (G.2.2.1, 64, .inl wu_7)), (a 5, .inr (0, [.ref (a 6)])), (a 6, .inl (G.2.2.1, 32, .inl fb)), (a 8, .inl (G.2.2.1, 8, .inl fd)), (a 9, .inl (G.2.2.1, 34, .inl fr)), (a 10, .inl (G.2.2.1, 1560, .inl fp))] : va_W)) [.ref (a 7), .int (nI ((y * 34) + 26))] [] ⟨hx, hb, hml, hown, hts⟩ hK hX hA hP hD hS (c_isAt l G _ (a 1) (a 2) (a 3) (a 4) (a 7) 2040 ((y * 34) + 26) yu_7 fc (by omega) (by omega)) (cwV 2 hts gX2_faultOf_X1_isAt rfl rfl rfl (by decide +kernel) ⟨Nat.le_of_ble_eq_true rfl, Nat.le_of_ble_eq_true rfl⟩) 1 1 rfl rfl rfl [1, 3, 7] [0, 2, 4, 5, 6, 8, 9, 10] rfl rfl (by decide) (by decide) (by decide) rfl hl.1 (Nat.le_of_ble_eq_true rfl) dX2_faultOf_69 ⟨Nat.zero_le _, Nat.zero_le _⟩ (fun r_8 u H locs hw hP hD hS => ?_)
      obtain rfl := hw
      have hP : va_P G.1 vwCl (wC G a mu_7 yu_7 wu_7 fb fc fd fr fp n k z t kn pl lf pn) H := hP.sub [0, 8, 1, 9, 2, 3, 4, 10, 5, 6, 7] rfl
      have hD : va_D A (wC G a mu_7 yu_7 wu_7 fb fc fd fr fp n k z t kn pl lf pn) := hD.sub [0, 8, 1, 9, 2, 3, 4, 10, 5, 6, 7] (by decide) rfl
      refine lv_if_ne (tgt := 77) hx hb dX2_faultOf_72 (by decide) (fun c72 => ?_) (fun c72 => ?_)
      · refine lv_aload_n hx hb dX2_faultOf_77 rfl (lv_at hl 1 rfl) ?_
        refine va_get (D := G.1) (ci := 2) (v := .ref (a 1)) (C := RX2) (T := TX2) (N := 14) hx hb hts hiX2 hown hK hP 0 rfl rfl 0 (by decide) lk10 (fun _ h9 => h9) rfl dX2_faultOf_78 ?_
        refine call_Vi (wr := ([(a 0, .inr (2, [.ref (a 1), .ref (a 5), .ref (a 7), .ref (a 8), .ref (a 9), .ref (a 10), .int (nI n), .int (nI k), .int (nI z), .int (nI t), .int kn, .int (nI pl), .int (nI lf), .int (nI pn)])), (a 2, .inl (G.2.2.1, 8, .inl mu_7)), (a 4, .inl (G.2.2.1, 64, .inl wu_7)), (a 5, .inr (0, [.ref (a 6)])), (a 6, .inl (G.2.2.1, 32, .inl fb)), (a 7, .inl (G.2.2.1, 2040, .inl fc)), (a 8, .inl (G.2.2.1, 8, .inl fd)), (a 9, .inl (G.2.2.1, 34, .inl fr)), (a 10, .inl (G.2.2.1, 1560, .inl fp))] : va_W)) [] [] ⟨hx, hb, hml, hown, hts⟩ hK hX hA hP hD hS (c_zeros l G _ (a 1) (a 2) (a 3) (a 4) yu_7) (cwV 0 hts gX2_faultOf_X1_zeros rfl rfl rfl (by decide +kernel) ⟨Nat.le_of_ble_eq_true rfl, Nat.le_of_ble_eq_true rfl⟩) 1 1 rfl rfl rfl [1, 3] [0, 2, 4, 5, 6, 7, 8, 9, 10] rfl rfl (by decide) (by decide) (by decide) rfl hl.1 (Nat.le_of_ble_eq_true rfl) dX2_faultOf_81 ⟨Nat.zero_le _, Nat.zero_le _⟩ (fun r_10 u H locs hw hP hD hS => ?_)
        obtain rfl := hw
        have hP : va_P G.1 vwCl (wC G a mu_7 yu_7 wu_7 fb fc fd fr fp n k z t kn pl lf pn) H := hP.sub [0, 9, 1, 10, 2, 3, 4, 5, 6, 7, 8] rfl
        have hD : va_D A (wC G a mu_7 yu_7 wu_7 fb fc fd fr fp n k z t kn pl lf pn) := hD.sub [0, 9, 1, 10, 2, 3, 4, 5, 6, 7, 8] (by decide) rfl
        refine lv_aload_n hx hb dX2_faultOf_84 rfl (lv_at hl 1 rfl) ?_
        refine va_get (D := G.1) (ci := 2) (v := .ref (a 7)) (C := RX2) (T := TX2) (N := 14) hx hb hts hiX2 hown hK hP 0 rfl rfl 2 (by decide) lk23 (fun _ h9 => h9) rfl dX2_faultOf_85 ?_
        refine lv_iload_n hx hb dX2_faultOf_88 rfl (lv_at hl 0 rfl) ?_
        refine lv_bipush (v := nI 24) hx hb dX2_faultOf_89 (by decide) ?_
        refine ad_N hx hb (y * 34) 24 dX2_faultOf_91 ?_
        refine rd_i hx hb hK hP 7 rfl ((y * 34) + 24) (by omega) (by omega) dX2_faultOf_92 ?_
        refine lv_iconst (v := nI 4) hx hb dX2_faultOf_93 (by decide) ?_
        refine lv_iushr (v := (p_ush (fc ((y * 34) + 24)) (nI 4))) hx hb dX2_faultOf_94 rfl ?_
        refine top_i (nI (p_dif (fc ((y * 34) + 24)))) (ush4 _) ?_
        have hdl := p_dif_lt (fc ((y * 34) + 24))
        have hzl := p_zeros_le yu_7
        refine cmp_ge hx hb (p_zeros yu_7) (p_dif (fc ((y * 34) + 24))) 100 (by omega) (by omega) dX2_faultOf_95 (by decide) (fun c95 => ?_) (fun c95 => ?_)
        · refine lv_iconst (v := nI 0) hx hb dX2_faultOf_100 (by decide) ?_
          exact ret 101 _ _ _ (nI 0) (mu_7, yu_7, wu_7) dX2_faultOf_101 (by rw [p_flt, bI_n c19, bI_n c40, ← is_congr hu_7, bI_n c72, ← p_zeros_congr hu_7, if_pos rfl, if_pos rfl, if_pos rfl, if_neg (by omega)]) hP hD hS
        · refine lv_iconst (v := nI 4) hx hb dX2_faultOf_98 (by decide) ?_
          exact ret 99 _ _ _ (nI 4) (mu_7, yu_7, wu_7) dX2_faultOf_99 (by rw [p_flt, bI_n c19, bI_n c40, ← is_congr hu_7, bI_n c72, ← p_zeros_congr hu_7, if_pos rfl, if_pos rfl, if_pos rfl, if_pos c95]) hP hD hS
      · refine lv_iconst (v := nI 3) hx hb dX2_faultOf_75 (by decide) ?_
        exact ret 76 _ _ _ (nI 3) (mu_7, yu_7, wu_7) dX2_faultOf_76 (by rw [p_flt, bI_n c19, bI_n c40, ← is_congr hu_7, bI_z c72]; rfl) hP hD hS
    · refine lv_iconst (v := nI 2) hx hb dX2_faultOf_43 (by decide) ?_
      exact ret 44 _ _ _ (nI 2) (fm, fh, fw) dX2_faultOf_44 (by rw [p_flt, bI_n c19, bI_z c40]; rfl) hP hD hS
  · refine lv_iconst (v := nI 1) hx hb dX2_faultOf_22 (by decide) ?_
    exact ret 23 _ _ _ (nI 1) (fm, fh, fw) dX2_faultOf_23 (by rw [p_flt, bI_z c19]; rfl) hP hD hS
set_option maxHeartbeats 4000000 in
set_option maxRecDepth 100000 in
theorem c_audit (l : Launch) (G : gG) (sz : Nat) (a : Nat → Nat) (fm fh fw fb fc fd fr fp : Nat → Int32) (n k z t : Nat) (kn : Int32) (pl lf pn : Nat) (x : Int32) (hn : n ≤ 60) (hk : k ≤ 8) (hz : z ≤ 20) (ht : t ≤ 100000) (hpl : pl ≤ 60) (hlf : lf ≤ 6) (hpn : pn ≤ 1560)  : MetI l yX2_audit wsX2_audit ({ frames := 6, cells := 0, slots := 0, locals := 143 } : Room) [.ref (a 0), .int x] G (wC G a fm fh fw fb fc fd fr fp n k z t kn pl lf pn) sz (fun u : (Nat → Int32) × (Nat → Int32) × (Nat → Int32) × Nat × Nat => wC G a u.1 u.2.1 u.2.2.1 fb fc fd fr fp n k z t kn u.2.2.2.1 u.2.2.2.2 pn) (fun r u => (fun r _ _ _ pl2 lf2 => q_audit fc fd n pl lf x r pl2 lf2) r u.1 u.2.1 u.2.2.1 u.2.2.2.1 u.2.2.2.2) := by
  refine ent_i _ cX2_audit 3 RX2 (by decide) rfl rfl (Nat.le_of_ble_eq_true rfl) ?_
  intro p e s m args below meth c A Q ls hx hb hml hts hown hA hK hX ret hl hP hD hS
  have hl : lv_has ls 3 [(0, .ref (a 0)), (1, .int x)] := hl
  have lk36 := hts (.fieldLink RX2 36 "MinedLedger" "entryCount" "I") (by decide +kernel)
  have lk61 := hts (.fieldLink RX2 61 "MinedLedger" "place" "I") (by decide +kernel)
  have lk64 := hts (.fieldLink RX2 64 "MinedLedger" "latestFault" "I") (by decide +kernel)
  have hiX2 : ∀ w ∈ wsX20, w ∈ wsX2_audit := by decide +kernel
  refine lv_iload_n hx hb dX2_audit_0 rfl (lv_at hl 1 rfl) ?_
  refine lv_iconst (v := nI 1) hx hb dX2_audit_1 (by decide) ?_
  refine cmz_ltzn hx hb x 1 11 (by omega) dX2_audit_2 (by decide) (fun c2 => ?_) (fun c2 => ?_)
  · refine lv_bipush (v := (-2)) hx hb dX2_audit_11 (by decide) ?_
    exact ret 13 _ _ _ (-2) (fm, fh, fw, pl, lf) dX2_audit_13 (Or.inl ⟨Or.inl c2, rfl, rfl, rfl⟩) hP hD hS
  · refine lv_iload_n hx hb dX2_audit_5 rfl (lv_at hl 1 rfl) ?_
    refine lv_bipush (v := nI 100) hx hb dX2_audit_6 (by decide) ?_
    refine cmz_lezn hx hb x 100 14 (by omega) dX2_audit_8 (by decide) (fun c8 => ?_) (fun c8 => ?_)
    · obtain ⟨q, hq, rfl⟩ := of_nn (x := x) (by omega)
      rw [tI_N hq] at c2 c8
      refine lv_aload_n hx hb dX2_audit_14 rfl (lv_at hl 0 rfl) ?_
      refine lv_iconst (v := nI 0) hx hb dX2_audit_15 (by decide) ?_
      refine va_put (D := G.1) (ci := 2) (v := .int (nI 0)) (ty := .int) (C := RX2) (T := TX2) (N := 14) hx hb hts hiX2 tyX2 tyX2_ok nmX2 hown hK hP hD hS 0 rfl rfl 12 (by decide) lk64 (fun _ h9 => h9) rfl (by decide +kernel) rfl rfl (Nat.le_of_ble_eq_true rfl) dX2_audit_16 (fun H locs hP hD hS => ?_)
      have hP : va_P G.1 vwCl (wC G a fm fh fw fb fc fd fr fp n k z t kn pl 0 pn) H := hP
      have hD : va_D A (wC G a fm fh fw fb fc fd fr fp n k z t kn pl 0 pn) := hD
      refine lv_iconst (v := nI 0) hx hb dX2_audit_19 (by decide) ?_
      refine lv_istore_n (lv' := [(2, .int (nI 0)), (0, .ref (a 0)), (1, .int (nI q))]) hx hb dX2_audit_20 rfl hl (by decide) rfl (fun ls hl => ?_)
      suffices hloop1 : ∀ (fu1 : Nat) (i : Nat) (mm : Nat → Int32) (hh : Nat → Int32) (ww : Nat → Int32), (i ≤ q) → (pl + i ≤ 60) → (p_aud fc fd n (q - i) (pl + i) = p_aud fc fd n q pl) → q - i < fu1 → ∀ (H : Heap) (locs : List Loc) (ls : Array Slot), va_P G.1 vwCl (wC G a mm hh ww fb fc fd fr fp n k z t kn (pl + i) 0 pn) H → va_D A (wC G a mm hh ww fb fc fd fr fp n k z t kn (pl + i) 0 pn) → va_S A s.heap H locs → lv_has ls 3 [(0, .ref (a 0)), (1, .int (nI q)), (2, .int (nI i))] → W p l e ({ frames := 6, cells := 0, slots := 0, locals := 143 } : Room) s m args below meth c H locs 0 0 Q (F0 m 21 ls []) from hloop1 _ 0 fm fh fw (Nat.zero_le _) hpl rfl (Nat.lt_succ_self _) _ _ _ hP hD hS (lv_sub hl [1, 2, 0] rfl)
      clear hP hD hS hl
      intro fu1
      induction fu1 with
      | zero => intro i mm hh ww hi hpi hau hfu; exact absurd hfu (Nat.not_lt_zero _)
      | succ fu1 ih1 =>
        intro i mm hh ww hi hpi hau hfu1 H locs ls hP hD hS hl
        refine lv_iload_n hx hb dX2_audit_21 rfl (lv_at hl 2 rfl) ?_
        refine lv_iload_n hx hb dX2_audit_22 rfl (lv_at hl 1 rfl) ?_
        refine cmp_ge hx hb i q 82 (by omega) (by omega) dX2_audit_23 (by decide) (fun c23 => ?_) (fun c23 => ?_)
        · refine lv_iconst (v := (-1)) hx hb dX2_audit_82 (by decide) ?_
          exact ret 83 _ _ _ (-1) (mm, hh, ww, pl + i, 0) dX2_audit_83 (Or.inr ⟨q, by omega, by omega, rfl, by rw [← hau, show q - i = 0 by omega]; rfl⟩) hP hD hS
        · refine lv_aload_n hx hb dX2_audit_26 rfl (lv_at hl 0 rfl) ?_
          refine va_get (D := G.1) (ci := 2) (v := .int (nI (pl + i))) (C := RX2) (T := TX2) (N := 14) hx hb hts hiX2 hown hK hP 0 rfl rfl 11 (by decide) lk61 (fun _ h9 => h9) rfl dX2_audit_27 ?_
          refine lv_aload_n hx hb dX2_audit_30 rfl (lv_at hl 0 rfl) ?_
          refine va_get (D := G.1) (ci := 2) (v := .int (nI n)) (C := RX2) (T := TX2) (N := 14) hx hb hts hiX2 hown hK hP 0 rfl rfl 6 (by decide) lk36 (fun _ h9 => h9) rfl dX2_audit_31 ?_
          refine cmp_lt hx hb (pl + i) n 42 (by omega) (by omega) dX2_audit_34 (by decide) (fun c34 => ?_) (fun c34 => ?_)
          · refine lv_aload_n hx hb dX2_audit_42 rfl (lv_at hl 0 rfl) ?_
            refine lv_aload_n hx hb dX2_audit_43 rfl (lv_at hl 0 rfl) ?_
            refine lv_aload_n hx hb dX2_audit_44 rfl (lv_at hl 0 rfl) ?_
            refine va_get (D := G.1) (ci := 2) (v := .int (nI (pl + i))) (C := RX2) (T := TX2) (N := 14) hx hb hts hiX2 hown hK hP 0 rfl rfl 11 (by decide) lk61 (fun _ h9 => h9) rfl dX2_audit_45 ?_
            refine call_Vi (wr := ([] : va_W)) [.int (nI (pl + i))] [.ref (a 0)] ⟨hx, hb, hml, hown, hts⟩ hK hX hA hP hD hS (c_faultOf l G _ a mm hh ww fb fc fd fr fp n k z t kn (pl + i) 0 pn (pl + i) (by omega) (by omega) (by omega) (by omega) (by omega) (by omega) (by omega) (by omega)) (cwV 1 hts gX2_audit_X2_faultOf rfl rfl rfl (by decide +kernel) ⟨Nat.le_of_ble_eq_true rfl, Nat.le_of_ble_eq_true rfl⟩) 2 0 rfl rfl rfl [0, 1, 2, 3, 4, 5, 6, 7, 8, 9, 10] [] rfl rfl (by decide) (by decide) (by decide) rfl hl.1 (Nat.le_of_ble_eq_true rfl) dX2_audit_48 ⟨Nat.zero_le _, Nat.zero_le _⟩ (fun r_5 u H locs hw hP hD hS => ?_)
            obtain ⟨mu_6, yu_6, wu_6⟩ := u
            obtain rfl := hw
            have hP : va_P G.1 vwCl (wC G a mu_6 yu_6 wu_6 fb fc fd fr fp n k z t kn (pl + i) 0 pn) H := hP
            have hD : va_D A (wC G a mu_6 yu_6 wu_6 fb fc fd fr fp n k z t kn (pl + i) 0 pn) := hD
            have hflu_6 := p_flt_le fc n (pl + i)
            refine va_put (D := G.1) (ci := 2) (v := .int (nI (p_flt fc n (pl + i)))) (ty := .int) (C := RX2) (T := TX2) (N := 14) hx hb hts hiX2 tyX2 tyX2_ok nmX2 hown hK hP hD hS 0 rfl rfl 12 (by decide) lk64 (fun _ h9 => h9) rfl (by decide +kernel) rfl rfl (Nat.le_of_ble_eq_true rfl) dX2_audit_51 (fun H locs hP hD hS => ?_)
            have hP : va_P G.1 vwCl (wC G a mu_6 yu_6 wu_6 fb fc fd fr fp n k z t kn (pl + i) (p_flt fc n (pl + i)) pn) H := hP
            have hD : va_D A (wC G a mu_6 yu_6 wu_6 fb fc fd fr fp n k z t kn (pl + i) (p_flt fc n (pl + i)) pn) := hD
            refine lv_aload_n hx hb dX2_audit_54 rfl (lv_at hl 0 rfl) ?_
            refine va_get (D := G.1) (ci := 2) (v := .int (nI (p_flt fc n (pl + i)))) (C := RX2) (T := TX2) (N := 14) hx hb hts hiX2 hown hK hP 0 rfl rfl 12 (by decide) lk64 (fun _ h9 => h9) rfl dX2_audit_55 ?_
            refine if0_eq hx hb (p_flt fc n (pl + i)) 66 (by omega) dX2_audit_58 (by decide) (fun c58 => ?_) (fun c58 => ?_)
            · rw [c58] at hP hD
              have hP : va_P G.1 vwCl (wC G a mu_6 yu_6 wu_6 fb fc fd fr fp n k z t kn (pl + i) 0 pn) H := hP
              have hD : va_D A (wC G a mu_6 yu_6 wu_6 fb fc fd fr fp n k z t kn (pl + i) 0 pn) := hD
              refine lv_aload_n hx hb dX2_audit_66 rfl (lv_at hl 0 rfl) ?_
              refine lv_dup hx hb dX2_audit_67 rfl ?_
              refine va_get (D := G.1) (ci := 2) (v := .int (nI (pl + i))) (C := RX2) (T := TX2) (N := 14) hx hb hts hiX2 hown hK hP 0 rfl rfl 11 (by decide) lk61 (fun _ h9 => h9) rfl dX2_audit_68 ?_
              refine lv_iconst (v := nI 1) hx hb dX2_audit_71 (by decide) ?_
              refine ad_N hx hb (pl + i) 1 dX2_audit_72 ?_
              refine va_put (D := G.1) (ci := 2) (v := .int (nI ((pl + i) + 1))) (ty := .int) (C := RX2) (T := TX2) (N := 14) hx hb hts hiX2 tyX2 tyX2_ok nmX2 hown hK hP hD hS 0 rfl rfl 11 (by decide) lk61 (fun _ h9 => h9) rfl (by decide +kernel) rfl rfl (Nat.le_of_ble_eq_true rfl) dX2_audit_73 (fun H locs hP hD hS => ?_)
              have hP : va_P G.1 vwCl (wC G a mu_6 yu_6 wu_6 fb fc fd fr fp n k z t kn ((pl + i) + 1) 0 pn) H := hP
              have hD : va_D A (wC G a mu_6 yu_6 wu_6 fb fc fd fr fp n k z t kn ((pl + i) + 1) 0 pn) := hD
              refine lv_iinc (v := nI (i + 1)) (lv' := [(2, .int (nI (i + 1))), (0, .ref (a 0)), (1, .int (nI q))]) hx hb dX2_audit_76 hl (k := 2) rfl (inc_N i 1) (by decide) rfl (fun ls hl => ?_)
              refine lv_goto (tgt := 21) hx hb dX2_audit_79 (by decide) ?_
              exact ih1 (i + 1) mu_6 yu_6 wu_6 (by omega) (by omega) (by rw [← hau, show q - i = (q - (i + 1)) + 1 by omega, p_aud, if_neg (by omega), if_pos c58]; rfl) (by omega) _ _ _ hP hD hS (lv_sub hl [1, 2, 0] rfl)
            · refine lv_aload_n hx hb dX2_audit_61 rfl (lv_at hl 0 rfl) ?_
              refine va_get (D := G.1) (ci := 2) (v := .int (nI (pl + i))) (C := RX2) (T := TX2) (N := 14) hx hb hts hiX2 hown hK hP 0 rfl rfl 11 (by decide) lk61 (fun _ h9 => h9) rfl dX2_audit_62 ?_
              exact ret 65 _ _ _ (nI (pl + i)) (mu_6, yu_6, wu_6, pl + i, p_flt fc n (pl + i)) dX2_audit_65 (Or.inr ⟨q, by omega, by omega, rfl, by rw [← hau, show q - i = (q - (i + 1)) + 1 by omega, p_aud, if_neg (by omega), if_neg (by omega)]⟩) hP hD hS
          · refine lv_aload_n hx hb dX2_audit_37 rfl (lv_at hl 0 rfl) ?_
            refine call_Vi (wr := ([] : va_W)) [] [] ⟨hx, hb, hml, hown, hts⟩ hK hX hA hP hD hS (c_auditHead l G _ a mm hh ww fb fc fd fr fp n k z t kn (pl + i) 0 pn  (by omega) (by omega) (by omega) (by omega) (by omega) (by omega) (by omega)) (cwV 0 hts gX2_audit_X2_auditHead rfl rfl rfl (by decide +kernel) ⟨Nat.le_of_ble_eq_true rfl, Nat.le_of_ble_eq_true rfl⟩) 2 0 rfl rfl rfl [0, 1, 2, 3, 4, 5, 6, 7, 8, 9, 10] [] rfl rfl (by decide) (by decide) (by decide) rfl hl.1 (Nat.le_of_ble_eq_true rfl) dX2_audit_38 ⟨Nat.zero_le _, Nat.zero_le _⟩ (fun r_8 u H locs hw hP hD hS => ?_)
            obtain ⟨lf_9, rfl⟩ : ∃ z, z = u := ⟨_, rfl⟩
            have hah := hw
            have hP : va_P G.1 vwCl (wC G a mm hh ww fb fc fd fr fp n k z t kn (pl + i) lf_9 pn) H := hP
            have hD : va_D A (wC G a mm hh ww fb fc fd fr fp n k z t kn (pl + i) lf_9 pn) := hD
            exact ret 41 _ _ _ r_8 (mm, hh, ww, pl + i, lf_9) dX2_audit_41 (Or.inr ⟨q, by omega, by omega, rfl, by rw [← hau, show q - i = (q - (i + 1)) + 1 by omega, p_aud, if_pos c34]; rcases hah with ⟨h1, h2, h3⟩ | ⟨h1, h2, h3⟩; rw [h1, if_pos rfl, h2, h3]; rw [h1, h2, h3]; rfl⟩) hP hD hS
    · refine lv_bipush (v := (-2)) hx hb dX2_audit_11 (by decide) ?_
      exact ret 13 _ _ _ (-2) (fm, fh, fw, pl, lf) dX2_audit_13 (Or.inl ⟨Or.inr c8, rfl, rfl, rfl⟩) hP hD hS
set_option maxHeartbeats 4000000 in
set_option maxRecDepth 100000 in
theorem c_way (l : Launch) (G : gG) (sz : Nat) (a : Nat → Nat) (fm fh fw fb fc fd fr fp : Nat → Int32) (n k z t : Nat) (kn : Int32) (pl lf pn : Nat) (x w : Int32) (hn : n ≤ 60) (hk : k ≤ 8) (hz : z ≤ 20) (ht : t ≤ 100000) (hpl : pl ≤ 60) (hlf : lf ≤ 6) (hpn : pn ≤ 1560)  : MetI l yX2_way wsX2_way ({ frames := 4, cells := 0, slots := 0, locals := 85 } : Room) [.ref (a 0), .int x, .int w] G (wC G a fm fh fw fb fc fd fr fp n k z t kn pl lf pn) sz (fun _ : Unit => wC G a fm fh fw fb fc fd fr fp n k z t kn pl lf pn) (fun r _ => q_way n x w r) := by
  refine ent_i _ cX2_way 5 RX2 (by decide) rfl rfl (Nat.le_of_ble_eq_true rfl) ?_
  intro p e s m args below meth c A Q ls hx hb hml hts hown hA hK hX ret hl hP hD hS
  have hl : lv_has ls 5 [(0, .ref (a 0)), (1, .int x), (2, .int w)] := hl
  have lk36 := hts (.fieldLink RX2 36 "MinedLedger" "entryCount" "I") (by decide +kernel)
  have hiX2 : ∀ w ∈ wsX20, w ∈ wsX2_way := by decide +kernel
  refine lv_aload_n hx hb dX2_way_0 rfl (lv_at hl 0 rfl) ?_
  refine lv_iload_n hx hb dX2_way_1 rfl (lv_at hl 1 rfl) ?_
  refine call_Vi (wr := ([] : va_W)) [.int x] [] ⟨hx, hb, hml, hown, hts⟩ hK hX hA hP hD hS (c_hasEntry l G _ a fm fh fw fb fc fd fr fp n k z t kn pl lf pn x (by omega) (by omega) (by omega) (by omega) (by omega) (by omega) (by omega)) (cwV 1 hts gX2_way_X2_hasEntry rfl rfl rfl (by decide +kernel) ⟨Nat.le_of_ble_eq_true rfl, Nat.le_of_ble_eq_true rfl⟩) 2 0 rfl rfl rfl [0, 1, 2, 3, 4, 5, 6, 7, 8, 9, 10] [] rfl rfl (by decide) (by decide) (by decide) rfl hl.1 (Nat.le_of_ble_eq_true rfl) dX2_way_2 ⟨Nat.zero_le _, Nat.zero_le _⟩ (fun r_1 u H locs hw hP hD hS => ?_)
  obtain rfl := hw
  have hP : va_P G.1 vwCl (wC G a fm fh fw fb fc fd fr fp n k z t kn pl lf pn) H := hP
  have hD : va_D A (wC G a fm fh fw fb fc fd fr fp n k z t kn pl lf pn) := hD
  refine lv_if_ne (tgt := 11) hx hb dX2_way_5 (by decide) (fun c5 => ?_) (fun c5 => ?_)
  · obtain ⟨y, hy, rfl⟩ := ok_of (by omega) (bI_n c5)
    refine lv_iload_n hx hb dX2_way_11 rfl (lv_at hl 2 rfl) ?_
    refine ifz_lt hx hb w 24 dX2_way_12 (by decide) (fun c12 => ?_) (fun c12 => ?_)
    · refine lv_iconst (v := (-1)) hx hb dX2_way_24 (by decide) ?_
      exact ret 25 _ _ _ (-1) () dX2_way_25 (by obtain ⟨K0, hK0⟩ := end_ex (x := n - 1) (e := y) (by omega) (by omega); exact Or.inr ⟨y, K0, hy, rfl, hK0, Or.inl ⟨Or.inl c12, rfl⟩⟩) hP hD hS
    · refine lv_iload_n hx hb dX2_way_15 rfl (lv_at hl 2 rfl) ?_
      refine lv_aload_n hx hb dX2_way_16 rfl (lv_at hl 0 rfl) ?_
      refine lv_iload_n hx hb dX2_way_17 rfl (lv_at hl 1 rfl) ?_
      refine call_Vi (wr := ([] : va_W)) [.int (nI y)] [.int w] ⟨hx, hb, hml, hown, hts⟩ hK hX hA hP hD hS (c_levelsTo l G _ a fm fh fw fb fc fd fr fp n k z t kn pl lf pn y (by omega) (by omega) (by omega) (by omega) (by omega) (by omega) (by omega) (by omega)) (cwV 1 hts gX2_way_X2_levelsTo rfl rfl rfl (by decide +kernel) ⟨Nat.le_of_ble_eq_true rfl, Nat.le_of_ble_eq_true rfl⟩) 2 0 rfl rfl rfl [0, 1, 2, 3, 4, 5, 6, 7, 8, 9, 10] [] rfl rfl (by decide) (by decide) (by decide) rfl hl.1 (Nat.le_of_ble_eq_true rfl) dX2_way_18 ⟨Nat.zero_le _, Nat.zero_le _⟩ (fun r_4 u H locs hw hP hD hS => ?_)
      obtain ⟨K_5, heK_5⟩ : ∃ z, z = u := ⟨_, rfl⟩
      subst heK_5
      obtain ⟨rfl, heK_5⟩ := hw
      have hlK_5 := way_le (x := n - 1) (e := y) (by omega) _ heK_5.1
      have hP : va_P G.1 vwCl (wC G a fm fh fw fb fc fd fr fp n k z t kn pl lf pn) H := hP
      have hD : va_D A (wC G a fm fh fw fb fc fd fr fp n k z t kn pl lf pn) := hD
      refine cmz_ltzn hx hb w (1 + K_5) 26 (by omega) dX2_way_21 (by decide) (fun c21 => ?_) (fun c21 => ?_)
      · obtain ⟨j, hj, rfl⟩ := of_nn (x := w) c12
        rw [tI_N hj] at c12 c21
        refine lv_aload_n hx hb dX2_way_26 rfl (lv_at hl 0 rfl) ?_
        refine va_get (D := G.1) (ci := 2) (v := .int (nI n)) (C := RX2) (T := TX2) (N := 14) hx hb hts hiX2 hown hK hP 0 rfl rfl 6 (by decide) lk36 (fun _ h9 => h9) rfl dX2_way_27 ?_
        refine lv_iconst (v := nI 1) hx hb dX2_way_30 (by decide) ?_
        refine su_N hx hb n 1 (by omega) dX2_way_31 ?_
        refine lv_istore_n (lv' := [(3, .int (nI (n - 1))), (0, .ref (a 0)), (1, .int (nI y)), (2, .int (nI j))]) hx hb dX2_way_32 rfl hl (by decide) rfl (fun ls hl => ?_)
        refine lv_iconst (v := nI 0) hx hb dX2_way_33 (by decide) ?_
        refine lv_istore (lv' := [(4, .int (nI 0)), (3, .int (nI (n - 1))), (0, .ref (a 0)), (1, .int (nI y)), (2, .int (nI j))]) hx hb dX2_way_34 hl (by decide) rfl (fun ls hl => ?_)
        suffices hloop1 : ∀ (fu1 : Nat) (i : Nat), (i ≤ j) → j - i < fu1 → ∀ (H : Heap) (locs : List Loc) (ls : Array Slot), va_P G.1 vwCl (wC G a fm fh fw fb fc fd fr fp n k z t kn pl lf pn) H → va_D A (wC G a fm fh fw fb fc fd fr fp n k z t kn pl lf pn) → va_S A s.heap H locs → lv_has ls 5 [(0, .ref (a 0)), (1, .int (nI y)), (2, .int (nI j)), (3, .int (nI (p_way (n - 1) y i))), (4, .int (nI i))] → W p l e ({ frames := 4, cells := 0, slots := 0, locals := 85 } : Room) s m args below meth c H locs 0 0 Q (F0 m 36 ls []) from hloop1 _ 0 (Nat.zero_le _) (Nat.lt_succ_self _) _ _ _ hP hD hS (lv_sub hl [2, 3, 4, 1, 0] rfl)
        clear hP hD hS hl
        intro fu1
        induction fu1 with
        | zero => intro i hi hfu; exact absurd hfu (Nat.not_lt_zero _)
        | succ fu1 ih1 =>
          intro i hi hfu1 H locs ls hP hD hS hl
          refine lv_iload hx hb dX2_way_36 (lv_at hl 4 rfl) ?_
          refine lv_iload_n hx hb dX2_way_38 rfl (lv_at hl 2 rfl) ?_
          refine cmp_ge hx hb i j 54 (by omega) (by omega) dX2_way_39 (by decide) (fun c39 => ?_) (fun c39 => ?_)
          · refine lv_iload_n hx hb dX2_way_54 rfl (lv_at hl 3 rfl) ?_
            exact ret 55 _ _ _ (nI (p_way (n - 1) y i)) () dX2_way_55 (Or.inr ⟨y, K_5, hy, rfl, heK_5, Or.inr ⟨j, by omega, rfl, by rw [show j = i by omega]⟩⟩) hP hD hS
          · have hwl := end_le (i := i) hn heK_5 (by omega)
            refine lv_iload_n hx hb dX2_way_42 rfl (lv_at hl 3 rfl) ?_
            refine lv_iload_n hx hb dX2_way_43 rfl (lv_at hl 1 rfl) ?_
            refine call_Si (wr := ([(a 0, .inr (2, [.ref (a 1), .ref (a 5), .ref (a 7), .ref (a 8), .ref (a 9), .ref (a 10), .int (nI n), .int (nI k), .int (nI z), .int (nI t), .int kn, .int (nI pl), .int (nI lf), .int (nI pn)])), (a 1, .inr (1, [.ref (a 2), .ref (a 3), .ref (a 4)])), (a 2, .inl (G.2.2.1, 8, .inl fm)), (a 3, .inl (G.2.2.1, 8, .inl fh)), (a 4, .inl (G.2.2.1, 64, .inl fw)), (a 5, .inr (0, [.ref (a 6)])), (a 6, .inl (G.2.2.1, 32, .inl fb)), (a 7, .inl (G.2.2.1, 2040, .inl fc)), (a 8, .inl (G.2.2.1, 8, .inl fd)), (a 9, .inl (G.2.2.1, 34, .inl fr)), (a 10, .inl (G.2.2.1, 1560, .inl fp))] : va_W)) [.int (nI (p_way (n - 1) y i)), .int (nI y)] [] ⟨hx, hb, hml, hown, hts⟩ hK hX hA hP hD hS (c_nextOnWay l G _ (p_way (n - 1) y i) y (by omega) (by omega)) (va_cwS 2 hts gX2_way_X2_nextOnWay rfl rfl rfl (by decide +kernel) ⟨Nat.le_of_ble_eq_true rfl, Nat.le_of_ble_eq_true rfl⟩) [] [0, 1, 2, 3, 4, 5, 6, 7, 8, 9, 10] rfl rfl (by decide) (by decide) (by decide) rfl hl.1 (Nat.le_of_ble_eq_true rfl) dX2_way_44 ⟨Nat.zero_le _, Nat.zero_le _⟩ (fun r_8 u H locs hw hP hD hS => ?_)
            obtain rfl := hw
            have hP : va_P G.1 vwCl (wC G a fm fh fw fb fc fd fr fp n k z t kn pl lf pn) H := hP
            have hD : va_D A (wC G a fm fh fw fb fc fd fr fp n k z t kn pl lf pn) := hD
            refine lv_istore_n (lv' := [(3, .int (nI (p_nx (p_way (n - 1) y i) y))), (0, .ref (a 0)), (1, .int (nI y)), (2, .int (nI j)), (4, .int (nI i))]) hx hb dX2_way_47 rfl hl (by decide) rfl (fun ls hl => ?_)
            refine lv_iinc (v := nI (i + 1)) (lv' := [(4, .int (nI (i + 1))), (3, .int (nI (p_nx (p_way (n - 1) y i) y))), (0, .ref (a 0)), (1, .int (nI y)), (2, .int (nI j))]) hx hb dX2_way_48 hl (k := 4) rfl (inc_N i 1) (by decide) rfl (fun ls hl => ?_)
            refine lv_goto (tgt := 36) hx hb dX2_way_51 (by decide) ?_
            exact ih1 (i + 1) (by omega) (by omega) _ _ _ hP hD hS (lv_sub hl [2, 3, 4, 1, 0] rfl)
      · refine lv_iconst (v := (-1)) hx hb dX2_way_24 (by decide) ?_
        exact ret 25 _ _ _ (-1) () dX2_way_25 (Or.inr ⟨y, K_5, hy, rfl, heK_5, Or.inl ⟨Or.inr (by omega), rfl⟩⟩) hP hD hS
  · refine lv_bipush (v := (-2)) hx hb dX2_way_8 (by decide) ?_
    exact ret 10 _ _ _ (-2) () dX2_way_10 (Or.inl ⟨bI_z c5, rfl⟩) hP hD hS
set_option maxHeartbeats 4000000 in
set_option maxRecDepth 100000 in
theorem c_prove (l : Launch) (G : gG) (sz : Nat) (a : Nat → Nat) (fm fh fw fb fc fd fr fp : Nat → Int32) (n k z t : Nat) (kn : Int32) (pl lf pn : Nat) (x : Int32) (hn : n ≤ 60) (hk : k ≤ 8) (hz : z ≤ 20) (ht : t ≤ 100000) (hpl : pl ≤ 60) (hlf : lf ≤ 6) (hpn : pn ≤ 1560)  : MetI l yX2_prove wsX2_prove ({ frames := 4, cells := 0, slots := 0, locals := 85 } : Room) [.ref (a 0), .int x] G (wC G a fm fh fw fb fc fd fr fp n k z t kn pl lf pn) sz (fun u : (Nat → Int32) × Nat => wC G a fm fh fw fb fc fd fr u.1 n k z t kn pl lf u.2) (fun r u => q_prove fc fp n pn x r u.1 u.2) := by
  refine ent_i _ cX2_prove 5 RX2 (by decide) rfl rfl (Nat.le_of_ble_eq_true rfl) ?_
  intro p e s m args below meth c A Q ls hx hb hml hts hown hA hK hX ret hl hP hD hS
  have hl : lv_has ls 5 [(0, .ref (a 0)), (1, .int x)] := hl
  have lk23 := hts (.fieldLink RX2 23 "MinedLedger" "cells" "[I") (by decide +kernel)
  have lk33 := hts (.fieldLink RX2 33 "MinedLedger" "proofWords" "[I") (by decide +kernel)
  have lk36 := hts (.fieldLink RX2 36 "MinedLedger" "entryCount" "I") (by decide +kernel)
  have lk67 := hts (.fieldLink RX2 67 "MinedLedger" "proofLength" "I") (by decide +kernel)
  have hiX2 : ∀ w ∈ wsX20, w ∈ wsX2_prove := by decide +kernel
  refine lv_aload_n hx hb dX2_prove_0 rfl (lv_at hl 0 rfl) ?_
  refine lv_iload_n hx hb dX2_prove_1 rfl (lv_at hl 1 rfl) ?_
  refine call_Vi (wr := ([] : va_W)) [.int x] [] ⟨hx, hb, hml, hown, hts⟩ hK hX hA hP hD hS (c_hasEntry l G _ a fm fh fw fb fc fd fr fp n k z t kn pl lf pn x (by omega) (by omega) (by omega) (by omega) (by omega) (by omega) (by omega)) (cwV 1 hts gX2_prove_X2_hasEntry rfl rfl rfl (by decide +kernel) ⟨Nat.le_of_ble_eq_true rfl, Nat.le_of_ble_eq_true rfl⟩) 2 0 rfl rfl rfl [0, 1, 2, 3, 4, 5, 6, 7, 8, 9, 10] [] rfl rfl (by decide) (by decide) (by decide) rfl hl.1 (Nat.le_of_ble_eq_true rfl) dX2_prove_2 ⟨Nat.zero_le _, Nat.zero_le _⟩ (fun r_1 u H locs hw hP hD hS => ?_)
  obtain rfl := hw
  have hP : va_P G.1 vwCl (wC G a fm fh fw fb fc fd fr fp n k z t kn pl lf pn) H := hP
  have hD : va_D A (wC G a fm fh fw fb fc fd fr fp n k z t kn pl lf pn) := hD
  refine lv_if_ne (tgt := 11) hx hb dX2_prove_5 (by decide) (fun c5 => ?_) (fun c5 => ?_)
  · obtain ⟨y, hy, rfl⟩ := ok_of (by omega) (bI_n c5)
    refine lv_aload_n hx hb dX2_prove_11 rfl (lv_at hl 0 rfl) ?_
    refine lv_iload_n hx hb dX2_prove_12 rfl (lv_at hl 1 rfl) ?_
    refine call_Vi (wr := ([] : va_W)) [.int (nI y)] [] ⟨hx, hb, hml, hown, hts⟩ hK hX hA hP hD hS (c_levelsTo l G _ a fm fh fw fb fc fd fr fp n k z t kn pl lf pn y (by omega) (by omega) (by omega) (by omega) (by omega) (by omega) (by omega) (by omega)) (cwV 1 hts gX2_prove_X2_levelsTo rfl rfl rfl (by decide +kernel) ⟨Nat.le_of_ble_eq_true rfl, Nat.le_of_ble_eq_true rfl⟩) 2 0 rfl rfl rfl [0, 1, 2, 3, 4, 5, 6, 7, 8, 9, 10] [] rfl rfl (by decide) (by decide) (by decide) rfl hl.1 (Nat.le_of_ble_eq_true rfl) dX2_prove_13 ⟨Nat.zero_le _, Nat.zero_le _⟩ (fun r_3 u H locs hw hP hD hS => ?_)
    obtain ⟨K, heK⟩ : ∃ z, z = u := ⟨_, rfl⟩
    subst heK
    obtain ⟨rfl, heK⟩ := hw
    have hlK := way_le (x := n - 1) (e := y) (by omega) _ heK.1
    have hP : va_P G.1 vwCl (wC G a fm fh fw fb fc fd fr fp n k z t kn pl lf pn) H := hP
    have hD : va_D A (wC G a fm fh fw fb fc fd fr fp n k z t kn pl lf pn) := hD
    refine lv_istore_n (lv' := [(2, .int (nI (1 + K))), (0, .ref (a 0)), (1, .int (nI y))]) hx hb dX2_prove_16 rfl hl (by decide) rfl (fun ls hl => ?_)
    refine lv_aload_n hx hb dX2_prove_17 rfl (lv_at hl 1 rfl) ?_
    refine va_get (D := G.1) (ci := 2) (v := .int (nI n)) (C := RX2) (T := TX2) (N := 14) hx hb hts hiX2 hown hK hP 0 rfl rfl 6 (by decide) lk36 (fun _ h9 => h9) rfl dX2_prove_18 ?_
    refine lv_iconst (v := nI 1) hx hb dX2_prove_21 (by decide) ?_
    refine su_N hx hb n 1 (by omega) dX2_prove_22 ?_
    refine lv_istore_n (lv' := [(3, .int (nI (n - 1))), (2, .int (nI (1 + K))), (0, .ref (a 0)), (1, .int (nI y))]) hx hb dX2_prove_23 rfl hl (by decide) rfl (fun ls hl => ?_)
    refine lv_iconst (v := nI 0) hx hb dX2_prove_24 (by decide) ?_
    refine lv_istore (lv' := [(4, .int (nI 0)), (3, .int (nI (n - 1))), (2, .int (nI (1 + K))), (0, .ref (a 0)), (1, .int (nI y))]) hx hb dX2_prove_25 hl (by decide) rfl (fun ls hl => ?_)
    suffices hloop1 : ∀ (fu1 : Nat) (i : Nat) (ff : Nat → Int32), (i ≤ 1 + K) → (∀ k j, k < i → j < 26 → ff (26 * k + j) = fc (34 * p_way (n - 1) y k + j)) → 1 + K - i < fu1 → ∀ (H : Heap) (locs : List Loc) (ls : Array Slot), va_P G.1 vwCl (wC G a fm fh fw fb fc fd fr ff n k z t kn pl lf pn) H → va_D A (wC G a fm fh fw fb fc fd fr ff n k z t kn pl lf pn) → va_S A s.heap H locs → lv_has ls 5 [(0, .ref (a 0)), (1, .int (nI y)), (2, .int (nI (1 + K))), (3, .int (nI (p_way (n - 1) y i))), (4, .int (nI i))] → W p l e ({ frames := 4, cells := 0, slots := 0, locals := 85 } : Room) s m args below meth c H locs 0 0 Q (F0 m 27 ls []) from hloop1 _ 0 fp (Nat.zero_le _) (fun k j h _ => absurd h (Nat.not_lt_zero k)) (Nat.lt_succ_self _) _ _ _ hP hD hS (lv_sub hl [3, 4, 2, 1, 0] rfl)
    clear hP hD hS hl
    intro fu1
    induction fu1 with
    | zero => intro i ff hi hff hfu; exact absurd hfu (Nat.not_lt_zero _)
    | succ fu1 ih1 =>
      intro i ff hi hff hfu1 H locs ls hP hD hS hl
      refine lv_iload hx hb dX2_prove_27 (lv_at hl 4 rfl) ?_
      refine lv_iload_n hx hb dX2_prove_29 rfl (lv_at hl 2 rfl) ?_
      refine cmp_ge hx hb i (1 + K) 67 (by omega) (by omega) dX2_prove_30 (by decide) (fun c30 => ?_) (fun c30 => ?_)
      · refine lv_aload_n hx hb dX2_prove_67 rfl (lv_at hl 0 rfl) ?_
        refine lv_iload_n hx hb dX2_prove_68 rfl (lv_at hl 2 rfl) ?_
        refine lv_bipush (v := nI 26) hx hb dX2_prove_69 (by decide) ?_
        refine mu_N hx hb (1 + K) 26 dX2_prove_71 ?_
        refine va_put (D := G.1) (ci := 2) (v := .int (nI ((1 + K) * 26))) (ty := .int) (C := RX2) (T := TX2) (N := 14) hx hb hts hiX2 tyX2 tyX2_ok nmX2 hown hK hP hD hS 0 rfl rfl 13 (by decide) lk67 (fun _ h9 => h9) rfl (by decide +kernel) rfl rfl (Nat.le_of_ble_eq_true rfl) dX2_prove_72 (fun H locs hP hD hS => ?_)
        have hP : va_P G.1 vwCl (wC G a fm fh fw fb fc fd fr ff n k z t kn pl lf ((1 + K) * 26)) H := hP
        have hD : va_D A (wC G a fm fh fw fb fc fd fr ff n k z t kn pl lf ((1 + K) * 26)) := hD
        refine lv_aload_n hx hb dX2_prove_75 rfl (lv_at hl 0 rfl) ?_
        refine va_get (D := G.1) (ci := 2) (v := .int (nI ((1 + K) * 26))) (C := RX2) (T := TX2) (N := 14) hx hb hts hiX2 hown hK hP 0 rfl rfl 13 (by decide) lk67 (fun _ h9 => h9) rfl dX2_prove_76 ?_
        exact ret 79 _ _ _ (nI ((1 + K) * 26)) (ff, (1 + K) * 26) dX2_prove_79 (Or.inr ⟨y, K, hy, rfl, heK, by congr 1; omega, by omega, fun k j hk hj => hff k j (by omega) hj⟩) hP hD hS
      · have hwl := end_le (i := i) hn heK (by omega)
        refine lv_aload_n hx hb dX2_prove_33 rfl (lv_at hl 0 rfl) ?_
        refine va_get (D := G.1) (ci := 2) (v := .ref (a 7)) (C := RX2) (T := TX2) (N := 14) hx hb hts hiX2 hown hK hP 0 rfl rfl 2 (by decide) lk23 (fun _ h9 => h9) rfl dX2_prove_34 ?_
        refine lv_iload_n hx hb dX2_prove_37 rfl (lv_at hl 3 rfl) ?_
        refine lv_bipush (v := nI 34) hx hb dX2_prove_38 (by decide) ?_
        refine mu_N hx hb (p_way (n - 1) y i) 34 dX2_prove_40 ?_
        refine lv_aload_n hx hb dX2_prove_41 rfl (lv_at hl 0 rfl) ?_
        refine va_get (D := G.1) (ci := 2) (v := .ref (a 10)) (C := RX2) (T := TX2) (N := 14) hx hb hts hiX2 hown hK hP 0 rfl rfl 5 (by decide) lk33 (fun _ h9 => h9) rfl dX2_prove_42 ?_
        refine lv_iload hx hb dX2_prove_45 (lv_at hl 4 rfl) ?_
        refine lv_bipush (v := nI 26) hx hb dX2_prove_47 (by decide) ?_
        refine mu_N hx hb i 26 dX2_prove_49 ?_
        refine lv_bipush (v := nI 26) hx hb dX2_prove_50 (by decide) ?_
        refine cpy_i hx hb (by rw [hml]; exact hl.1.symm) hown (hts (.methodLink RX2 84 arraycopyName) (by decide +kernel)) (hts (.native arraycopyName) (by decide +kernel)) (hts (.static arraycopyName) (by decide +kernel)) (hts (.initialized "java/lang/System") (by decide +kernel)) hK hP hD hS 7 10 rfl rfl ((p_way (n - 1) y i) * 34) (i * 26) 26 (by omega) (by omega) (by omega) (Nat.le_of_ble_eq_true rfl) (Nat.le_of_ble_eq_true rfl) dX2_prove_52 (fun H locs hP hD hS => ?_)
        have hP : va_P G.1 vwCl (wC G a fm fh fw fb fc fd fr (va_cpy fc ff ((p_way (n - 1) y i) * 34) (i * 26) 26) n k z t kn pl lf pn) H := hP
        have hD : va_D A (wC G a fm fh fw fb fc fd fr (va_cpy fc ff ((p_way (n - 1) y i) * 34) (i * 26) 26) n k z t kn pl lf pn) := hD
        refine lv_iload_n hx hb dX2_prove_55 rfl (lv_at hl 3 rfl) ?_
        refine lv_iload_n hx hb dX2_prove_56 rfl (lv_at hl 1 rfl) ?_
        refine call_Si (wr := ([(a 0, .inr (2, [.ref (a 1), .ref (a 5), .ref (a 7), .ref (a 8), .ref (a 9), .ref (a 10), .int (nI n), .int (nI k), .int (nI z), .int (nI t), .int kn, .int (nI pl), .int (nI lf), .int (nI pn)])), (a 1, .inr (1, [.ref (a 2), .ref (a 3), .ref (a 4)])), (a 2, .inl (G.2.2.1, 8, .inl fm)), (a 3, .inl (G.2.2.1, 8, .inl fh)), (a 4, .inl (G.2.2.1, 64, .inl fw)), (a 5, .inr (0, [.ref (a 6)])), (a 6, .inl (G.2.2.1, 32, .inl fb)), (a 7, .inl (G.2.2.1, 2040, .inl fc)), (a 8, .inl (G.2.2.1, 8, .inl fd)), (a 9, .inl (G.2.2.1, 34, .inl fr)), (a 10, .inl (G.2.2.1, 1560, .inl (va_cpy fc ff ((p_way (n - 1) y i) * 34) (i * 26) 26)))] : va_W)) [.int (nI (p_way (n - 1) y i)), .int (nI y)] [] ⟨hx, hb, hml, hown, hts⟩ hK hX hA hP hD hS (c_nextOnWay l G _ (p_way (n - 1) y i) y (by omega) (by omega)) (va_cwS 2 hts gX2_prove_X2_nextOnWay rfl rfl rfl (by decide +kernel) ⟨Nat.le_of_ble_eq_true rfl, Nat.le_of_ble_eq_true rfl⟩) [] [0, 1, 2, 3, 4, 5, 6, 7, 8, 9, 10] rfl rfl (by decide) (by decide) (by decide) rfl hl.1 (Nat.le_of_ble_eq_true rfl) dX2_prove_57 ⟨Nat.zero_le _, Nat.zero_le _⟩ (fun r_6 u H locs hw hP hD hS => ?_)
        obtain rfl := hw
        have hP : va_P G.1 vwCl (wC G a fm fh fw fb fc fd fr (va_cpy fc ff ((p_way (n - 1) y i) * 34) (i * 26) 26) n k z t kn pl lf pn) H := hP
        have hD : va_D A (wC G a fm fh fw fb fc fd fr (va_cpy fc ff ((p_way (n - 1) y i) * 34) (i * 26) 26) n k z t kn pl lf pn) := hD
        refine lv_istore_n (lv' := [(3, .int (nI (p_nx (p_way (n - 1) y i) y))), (0, .ref (a 0)), (1, .int (nI y)), (2, .int (nI (1 + K))), (4, .int (nI i))]) hx hb dX2_prove_60 rfl hl (by decide) rfl (fun ls hl => ?_)
        refine lv_iinc (v := nI (i + 1)) (lv' := [(4, .int (nI (i + 1))), (3, .int (nI (p_nx (p_way (n - 1) y i) y))), (0, .ref (a 0)), (1, .int (nI y)), (2, .int (nI (1 + K)))]) hx hb dX2_prove_61 hl (k := 4) rfl (inc_N i 1) (by decide) rfl (fun ls hl => ?_)
        refine lv_goto (tgt := 27) hx hb dX2_prove_64 (by decide) ?_
        exact ih1 (i + 1) (va_cpy fc ff ((p_way (n - 1) y i) * 34) (i * 26) 26) (by omega) (fun k j hk hj => by rcases Nat.lt_or_ge k i with q1 | q1; rw [pk_cpy_out (by omega)]; exact hff k j q1 hj; rw [show k = i by omega, pk_cpy_in (by omega) (by omega)]; congr 1; omega) (by omega) _ _ _ hP hD hS (lv_sub hl [2, 3, 4, 1, 0] rfl)
  · refine lv_bipush (v := (-2)) hx hb dX2_prove_8 (by decide) ?_
    exact ret 10 _ _ _ (-2) (fp, pn) dX2_prove_10 (Or.inl ⟨bI_z c5, rfl, rfl, rfl⟩) hP hD hS
theorem chk_T {fd fp g yu : Nat → Int32} {x y k d b : Nat} (h : ∀ j, j < 8 → p_is yu g d j = true) (hd : ∀ j, g (d + j) = p_due fd fp x y k j) (hy : ∀ j, j < 8 → yu j = p_hash fp (b) j) (hb : b = 26 * k) : p_chk fd fp x y k = true := by
  refine allN_iff.mpr (fun j hj => decide_eq_true ?_)
  rw [← hd j, ← hb, ← hy j hj]
  exact of_decide_eq_true (h j hj)
theorem chk_F {fd fp g yu : Nat → Int32} {x y k d b : Nat} (h : allN (p_is yu g d) 8 = false) (hd : ∀ j, g (d + j) = p_due fd fp x y k j) (hy : ∀ j, j < 8 → yu j = p_hash fp (b) j) (hb : b = 26 * k) : ¬ p_chk fd fp x y k = true := by
  intro z
  have e : allN (p_is yu g d) 8 = true := allN_iff.mpr (fun j hj => decide_eq_true (by rw [hd j, hy j hj, hb]; exact of_decide_eq_true (allN_iff.mp z j hj)))
  rw [e] at h
  cases h
set_option maxHeartbeats 4000000 in
set_option maxRecDepth 100000 in
theorem c_proofHolds (l : Launch) (G : gG) (sz : Nat) (a : Nat → Nat) (fm fh fw fb fc fd fr fp : Nat → Int32) (n k z t : Nat) (kn : Int32) (pl lf pn : Nat) (y : Nat) (hn : n ≤ 60) (hk : k ≤ 8) (hz : z ≤ 20) (ht : t ≤ 100000) (hpl : pl ≤ 60) (hlf : lf ≤ 6) (hpn : pn ≤ 1560) (hy : y < n) : MetI l yX2_proofHolds wsX2_proofHolds ({ frames := 5, cells := 0, slots := 0, locals := 121 } : Room) [.ref (a 0), .int (nI y)] G (wC G a fm fh fw fb fc fd fr fp n k z t kn pl lf pn) sz (fun u : (Nat → Int32) × (Nat → Int32) × (Nat → Int32) => wC G a u.1 u.2.1 u.2.2 fb fc fd fr fp n k z t kn pl lf pn) (fun r u => (fun r _ _ _ => ∃ K, p_end (n - 1) y K ∧ r = bI (decide (pn = 26 * (K + 1)) && allN (p_chk fd fp (n - 1) y) (K + 1))) r u.1 u.2.1 u.2.2) := by
  refine ent_z _ cX2_proofHolds 7 RX2 (by decide) rfl rfl (Nat.le_of_ble_eq_true rfl) ?_
  intro p e s m args below meth c A Q ls hx hb hml hts hown hA hK hX ret hl hP hD hS
  have hl : lv_has ls 7 [(0, .ref (a 0)), (1, .int (nI y))] := hl
  have lk10 := hts (.fieldLink RX2 10 "MinedLedger" "hasher" "LMinedLedger$Hasher;") (by decide +kernel)
  have lk27 := hts (.fieldLink RX2 27 "MinedLedger" "headWords" "[I") (by decide +kernel)
  have lk33 := hts (.fieldLink RX2 33 "MinedLedger" "proofWords" "[I") (by decide +kernel)
  have lk36 := hts (.fieldLink RX2 36 "MinedLedger" "entryCount" "I") (by decide +kernel)
  have lk67 := hts (.fieldLink RX2 67 "MinedLedger" "proofLength" "I") (by decide +kernel)
  have hiX2 : ∀ w ∈ wsX20, w ∈ wsX2_proofHolds := by decide +kernel
  refine lv_aload_n hx hb dX2_proofHolds_0 rfl (lv_at hl 0 rfl) ?_
  refine lv_iload_n hx hb dX2_proofHolds_1 rfl (lv_at hl 1 rfl) ?_
  refine call_Vi (wr := ([] : va_W)) [.int (nI y)] [] ⟨hx, hb, hml, hown, hts⟩ hK hX hA hP hD hS (c_levelsTo l G _ a fm fh fw fb fc fd fr fp n k z t kn pl lf pn y (by omega) (by omega) (by omega) (by omega) (by omega) (by omega) (by omega) (by omega)) (cwV 1 hts gX2_proofHolds_X2_levelsTo rfl rfl rfl (by decide +kernel) ⟨Nat.le_of_ble_eq_true rfl, Nat.le_of_ble_eq_true rfl⟩) 2 0 rfl rfl rfl [0, 1, 2, 3, 4, 5, 6, 7, 8, 9, 10] [] rfl rfl (by decide) (by decide) (by decide) rfl hl.1 (Nat.le_of_ble_eq_true rfl) dX2_proofHolds_2 ⟨Nat.zero_le _, Nat.zero_le _⟩ (fun r_1 u H locs hw hP hD hS => ?_)
  obtain ⟨K, heK⟩ : ∃ z, z = u := ⟨_, rfl⟩
  subst heK
  obtain ⟨rfl, heK⟩ := hw
  have hlK := way_le (x := n - 1) (e := y) (by omega) _ heK.1
  have hP : va_P G.1 vwCl (wC G a fm fh fw fb fc fd fr fp n k z t kn pl lf pn) H := hP
  have hD : va_D A (wC G a fm fh fw fb fc fd fr fp n k z t kn pl lf pn) := hD
  refine lv_istore_n (lv' := [(2, .int (nI (1 + K))), (0, .ref (a 0)), (1, .int (nI y))]) hx hb dX2_proofHolds_5 rfl hl (by decide) rfl (fun ls hl => ?_)
  refine lv_aload_n hx hb dX2_proofHolds_6 rfl (lv_at hl 1 rfl) ?_
  refine va_get (D := G.1) (ci := 2) (v := .int (nI pn)) (C := RX2) (T := TX2) (N := 14) hx hb hts hiX2 hown hK hP 0 rfl rfl 13 (by decide) lk67 (fun _ h9 => h9) rfl dX2_proofHolds_7 ?_
  refine lv_iload_n hx hb dX2_proofHolds_10 rfl (lv_at hl 0 rfl) ?_
  refine lv_bipush (v := nI 26) hx hb dX2_proofHolds_11 (by decide) ?_
  refine mu_N hx hb (1 + K) 26 dX2_proofHolds_13 ?_
  refine cmp_eq hx hb pn ((1 + K) * 26) 19 (by omega) (by omega) dX2_proofHolds_14 (by decide) (fun c14 => ?_) (fun c14 => ?_)
  · refine lv_aload_n hx hb dX2_proofHolds_19 rfl (lv_at hl 1 rfl) ?_
    refine va_get (D := G.1) (ci := 2) (v := .ref (a 8)) (C := RX2) (T := TX2) (N := 14) hx hb hts hiX2 hown hK hP 0 rfl rfl 3 (by decide) lk27 (fun _ h9 => h9) rfl dX2_proofHolds_20 ?_
    refine lv_astore_n (lv' := [(3, .ref (a 8)), (2, .int (nI (1 + K))), (0, .ref (a 0)), (1, .int (nI y))]) hx hb dX2_proofHolds_23 rfl hl (by decide) rfl (fun ls hl => ?_)
    refine lv_iconst (v := nI 0) hx hb dX2_proofHolds_24 (by decide) ?_
    refine lv_istore (lv' := [(4, .int (nI 0)), (3, .ref (a 8)), (2, .int (nI (1 + K))), (0, .ref (a 0)), (1, .int (nI y))]) hx hb dX2_proofHolds_25 hl (by decide) rfl (fun ls hl => ?_)
    refine lv_aload_n hx hb dX2_proofHolds_27 rfl (lv_at hl 3 rfl) ?_
    refine va_get (D := G.1) (ci := 2) (v := .int (nI n)) (C := RX2) (T := TX2) (N := 14) hx hb hts hiX2 hown hK hP 0 rfl rfl 6 (by decide) lk36 (fun _ h9 => h9) rfl dX2_proofHolds_28 ?_
    refine lv_iconst (v := nI 1) hx hb dX2_proofHolds_31 (by decide) ?_
    refine su_N hx hb n 1 (by omega) dX2_proofHolds_32 ?_
    refine lv_istore (lv' := [(5, .int (nI (n - 1))), (4, .int (nI 0)), (3, .ref (a 8)), (2, .int (nI (1 + K))), (0, .ref (a 0)), (1, .int (nI y))]) hx hb dX2_proofHolds_33 hl (by decide) rfl (fun ls hl => ?_)
    refine lv_iconst (v := nI 0) hx hb dX2_proofHolds_35 (by decide) ?_
    refine lv_istore (lv' := [(6, .int (nI 0)), (5, .int (nI (n - 1))), (4, .int (nI 0)), (3, .ref (a 8)), (2, .int (nI (1 + K))), (0, .ref (a 0)), (1, .int (nI y))]) hx hb dX2_proofHolds_36 hl (by decide) rfl (fun ls hl => ?_)
    refine lv_iload hx hb dX2_proofHolds_38 (lv_at hl 0 rfl) ?_
    refine lv_iload_n hx hb dX2_proofHolds_40 rfl (lv_at hl 4 rfl) ?_
    refine cmp_ge hx hb 0 (1 + K) 117 (by omega) (by omega) dX2_proofHolds_41 (by decide) (fun c41 => ?_) (fun c41 => ?_)
    · exfalso; omega
    · have hwl := end_le (i := 0) hn heK (by omega)
      refine lv_aload_n hx hb dX2_proofHolds_44 rfl (lv_at hl 5 rfl) ?_
      refine va_get (D := G.1) (ci := 2) (v := .ref (a 1)) (C := RX2) (T := TX2) (N := 14) hx hb hts hiX2 hown hK hP 0 rfl rfl 0 (by decide) lk10 (fun _ h9 => h9) rfl dX2_proofHolds_45 ?_
      refine lv_aload_n hx hb dX2_proofHolds_48 rfl (lv_at hl 5 rfl) ?_
      refine va_get (D := G.1) (ci := 2) (v := .ref (a 10)) (C := RX2) (T := TX2) (N := 14) hx hb hts hiX2 hown hK hP 0 rfl rfl 5 (by decide) lk33 (fun _ h9 => h9) rfl dX2_proofHolds_49 ?_
      refine lv_iload hx hb dX2_proofHolds_52 (lv_at hl 0 rfl) ?_
      refine lv_bipush (v := nI 26) hx hb dX2_proofHolds_54 (by decide) ?_
      refine mu_N hx hb 0 26 dX2_proofHolds_56 ?_
      refine call_Vv (wr := ([(a 0, .inr (2, [.ref (a 1), .ref (a 5), .ref (a 7), .ref (a 8), .ref (a 9), .ref (a 10), .int (nI n), .int (nI k), .int (nI z), .int (nI t), .int kn, .int (nI pl), .int (nI lf), .int (nI pn)])), (a 5, .inr (0, [.ref (a 6)])), (a 6, .inl (G.2.2.1, 32, .inl fb)), (a 7, .inl (G.2.2.1, 2040, .inl fc)), (a 8, .inl (G.2.2.1, 8, .inl fd)), (a 9, .inl (G.2.2.1, 34, .inl fr))] : va_W)) [.ref (a 10), .int (nI (0 * 26))] [] ⟨hx, hb, hml, hown, hts⟩ hK hX hA hP hD hS (c_takeAll l G _ (a 1) (a 2) (a 3) (a 4) (a 10) 1560 (0 * 26) fm fh fw fp (by omega) (by omega)) (cwV 2 hts gX2_proofHolds_X1_takeAll rfl rfl rfl (by decide +kernel) ⟨Nat.le_of_ble_eq_true rfl, Nat.le_of_ble_eq_true rfl⟩) 1 1 rfl rfl rfl [1, 2, 3, 4, 10] [0, 5, 6, 7, 8, 9] rfl rfl (by decide) (by decide) (by decide) rfl hl.1 (Nat.le_of_ble_eq_true rfl) dX2_proofHolds_57 ⟨Nat.zero_le _, Nat.zero_le _⟩ (fun u H locs hw hP hD hS => ?_)
      obtain ⟨mu_6, yu_6, wu_6⟩ := u
      have hu_6 : ∀ j, j < 8 → yu_6 j = p_hash fp (0 * 26) j := hw
      have hP : va_P G.1 vwCl (wC G a mu_6 yu_6 wu_6 fb fc fd fr fp n k z t kn pl lf pn) H := hP.sub [0, 6, 7, 8, 9, 1, 2, 3, 4, 5, 10] rfl
      have hD : va_D A (wC G a mu_6 yu_6 wu_6 fb fc fd fr fp n k z t kn pl lf pn) := hD.sub [0, 6, 7, 8, 9, 1, 2, 3, 4, 5, 10] (by decide) rfl
      refine lv_aload_n hx hb dX2_proofHolds_60 rfl (lv_at hl 5 rfl) ?_
      refine va_get (D := G.1) (ci := 2) (v := .ref (a 1)) (C := RX2) (T := TX2) (N := 14) hx hb hts hiX2 hown hK hP 0 rfl rfl 0 (by decide) lk10 (fun _ h9 => h9) rfl dX2_proofHolds_61 ?_
      refine lv_aload_n hx hb dX2_proofHolds_64 rfl (lv_at hl 3 rfl) ?_
      refine lv_iload hx hb dX2_proofHolds_65 (lv_at hl 2 rfl) ?_
      refine call_Vi (wr := ([(a 0, .inr (2, [.ref (a 1), .ref (a 5), .ref (a 7), .ref (a 8), .ref (a 9), .ref (a 10), .int (nI n), .int (nI k), .int (nI z), .int (nI t), .int kn, .int (nI pl), .int (nI lf), .int (nI pn)])), (a 2, .inl (G.2.2.1, 8, .inl mu_6)), (a 4, .inl (G.2.2.1, 64, .inl wu_6)), (a 5, .inr (0, [.ref (a 6)])), (a 6, .inl (G.2.2.1, 32, .inl fb)), (a 7, .inl (G.2.2.1, 2040, .inl fc)), (a 9, .inl (G.2.2.1, 34, .inl fr)), (a 10, .inl (G.2.2.1, 1560, .inl fp))] : va_W)) [.ref (a 8), .int (nI 0)] [] ⟨hx, hb, hml, hown, hts⟩ hK hX hA hP hD hS (c_isAt l G _ (a 1) (a 2) (a 3) (a 4) (a 8) 8 0 yu_6 fd (by omega) (by omega)) (cwV 2 hts gX2_proofHolds_X1_isAt rfl rfl rfl (by decide +kernel) ⟨Nat.le_of_ble_eq_true rfl, Nat.le_of_ble_eq_true rfl⟩) 1 1 rfl rfl rfl [1, 3, 8] [0, 2, 4, 5, 6, 7, 9, 10] rfl rfl (by decide) (by decide) (by decide) rfl hl.1 (Nat.le_of_ble_eq_true rfl) dX2_proofHolds_67 ⟨Nat.zero_le _, Nat.zero_le _⟩ (fun r_7 u H locs hw hP hD hS => ?_)
      obtain rfl := hw
      have hP : va_P G.1 vwCl (wC G a mu_6 yu_6 wu_6 fb fc fd fr fp n k z t kn pl lf pn) H := hP.sub [0, 8, 1, 9, 2, 3, 4, 5, 10, 6, 7] rfl
      have hD : va_D A (wC G a mu_6 yu_6 wu_6 fb fc fd fr fp n k z t kn pl lf pn) := hD.sub [0, 8, 1, 9, 2, 3, 4, 5, 10, 6, 7] (by decide) rfl
      refine lv_if_ne (tgt := 75) hx hb dX2_proofHolds_70 (by decide) (fun c70 => ?_) (fun c70 => ?_)
      · refine lv_aload_n hx hb dX2_proofHolds_75 rfl (lv_at hl 5 rfl) ?_
        refine va_get (D := G.1) (ci := 2) (v := .ref (a 10)) (C := RX2) (T := TX2) (N := 14) hx hb hts hiX2 hown hK hP 0 rfl rfl 5 (by decide) lk33 (fun _ h9 => h9) rfl dX2_proofHolds_76 ?_
        refine lv_astore_n (lv' := [(3, .ref (a 10)), (6, .int (nI 0)), (5, .int (nI (n - 1))), (4, .int (nI 0)), (2, .int (nI (1 + K))), (0, .ref (a 0)), (1, .int (nI y))]) hx hb dX2_proofHolds_79 rfl hl (by decide) rfl (fun ls hl => ?_)
        refine lv_iload hx hb dX2_proofHolds_80 (lv_at hl 1 rfl) ?_
        refine lv_bipush (v := nI 26) hx hb dX2_proofHolds_82 (by decide) ?_
        refine mu_N hx hb 0 26 dX2_proofHolds_84 ?_
        refine lv_iload hx hb dX2_proofHolds_85 (lv_at hl 2 rfl) ?_
        refine lv_iload_n hx hb dX2_proofHolds_87 rfl (lv_at hl 6 rfl) ?_
        refine call_Si (wr := ([(a 0, .inr (2, [.ref (a 1), .ref (a 5), .ref (a 7), .ref (a 8), .ref (a 9), .ref (a 10), .int (nI n), .int (nI k), .int (nI z), .int (nI t), .int kn, .int (nI pl), .int (nI lf), .int (nI pn)])), (a 1, .inr (1, [.ref (a 2), .ref (a 3), .ref (a 4)])), (a 2, .inl (G.2.2.1, 8, .inl mu_6)), (a 3, .inl (G.2.2.1, 8, .inl yu_6)), (a 4, .inl (G.2.2.1, 64, .inl wu_6)), (a 5, .inr (0, [.ref (a 6)])), (a 6, .inl (G.2.2.1, 32, .inl fb)), (a 7, .inl (G.2.2.1, 2040, .inl fc)), (a 8, .inl (G.2.2.1, 8, .inl fd)), (a 9, .inl (G.2.2.1, 34, .inl fr)), (a 10, .inl (G.2.2.1, 1560, .inl fp))] : va_W)) [.int (nI (n - 1)), .int (nI y)] [.int (nI (0 * 26))] ⟨hx, hb, hml, hown, hts⟩ hK hX hA hP hD hS (c_goesBySkip l G _ (n - 1) y (by omega) (by omega)) (va_cwS 2 hts gX2_proofHolds_X2_goesBySkip rfl rfl rfl (by decide +kernel) ⟨Nat.le_of_ble_eq_true rfl, Nat.le_of_ble_eq_true rfl⟩) [] [0, 1, 2, 3, 4, 5, 6, 7, 8, 9, 10] rfl rfl (by decide) (by decide) (by decide) rfl hl.1 (Nat.le_of_ble_eq_true rfl) dX2_proofHolds_88 ⟨Nat.zero_le _, Nat.zero_le _⟩ (fun r_9 u H locs hw hP hD hS => ?_)
        obtain rfl := hw
        have hP : va_P G.1 vwCl (wC G a mu_6 yu_6 wu_6 fb fc fd fr fp n k z t kn pl lf pn) H := hP
        have hD : va_D A (wC G a mu_6 yu_6 wu_6 fb fc fd fr fp n k z t kn pl lf pn) := hD
        refine lv_if_eq (tgt := 99) hx hb dX2_proofHolds_91 (by decide) (fun c91 => ?_) (fun c91 => ?_)
        · refine lv_iconst (v := nI 0) hx hb dX2_proofHolds_99 (by decide) ?_
          refine ad_N hx hb (0 * 26) 0 dX2_proofHolds_100 ?_
          refine lv_istore (lv' := [(4, .int (nI ((0 * 26) + 0))), (3, .ref (a 10)), (6, .int (nI 0)), (5, .int (nI (n - 1))), (2, .int (nI (1 + K))), (0, .ref (a 0)), (1, .int (nI y))]) hx hb dX2_proofHolds_101 hl (by decide) rfl (fun ls hl => ?_)
          refine lv_iload hx hb dX2_proofHolds_103 (lv_at hl 3 rfl) ?_
          refine lv_iload_n hx hb dX2_proofHolds_105 rfl (lv_at hl 6 rfl) ?_
          refine call_Si (wr := ([(a 0, .inr (2, [.ref (a 1), .ref (a 5), .ref (a 7), .ref (a 8), .ref (a 9), .ref (a 10), .int (nI n), .int (nI k), .int (nI z), .int (nI t), .int kn, .int (nI pl), .int (nI lf), .int (nI pn)])), (a 1, .inr (1, [.ref (a 2), .ref (a 3), .ref (a 4)])), (a 2, .inl (G.2.2.1, 8, .inl mu_6)), (a 3, .inl (G.2.2.1, 8, .inl yu_6)), (a 4, .inl (G.2.2.1, 64, .inl wu_6)), (a 5, .inr (0, [.ref (a 6)])), (a 6, .inl (G.2.2.1, 32, .inl fb)), (a 7, .inl (G.2.2.1, 2040, .inl fc)), (a 8, .inl (G.2.2.1, 8, .inl fd)), (a 9, .inl (G.2.2.1, 34, .inl fr)), (a 10, .inl (G.2.2.1, 1560, .inl fp))] : va_W)) [.int (nI (n - 1)), .int (nI y)] [] ⟨hx, hb, hml, hown, hts⟩ hK hX hA hP hD hS (c_nextOnWay l G _ (n - 1) y (by omega) (by omega)) (va_cwS 2 hts gX2_proofHolds_X2_nextOnWay rfl rfl rfl (by decide +kernel) ⟨Nat.le_of_ble_eq_true rfl, Nat.le_of_ble_eq_true rfl⟩) [] [0, 1, 2, 3, 4, 5, 6, 7, 8, 9, 10] rfl rfl (by decide) (by decide) (by decide) rfl hl.1 (Nat.le_of_ble_eq_true rfl) dX2_proofHolds_106 ⟨Nat.zero_le _, Nat.zero_le _⟩ (fun r_11 u H locs hw hP hD hS => ?_)
          obtain rfl := hw
          have hP : va_P G.1 vwCl (wC G a mu_6 yu_6 wu_6 fb fc fd fr fp n k z t kn pl lf pn) H := hP
          have hD : va_D A (wC G a mu_6 yu_6 wu_6 fb fc fd fr fp n k z t kn pl lf pn) := hD
          refine lv_istore (lv' := [(5, .int (nI (p_nx (n - 1) y))), (4, .int (nI ((0 * 26) + 0))), (3, .ref (a 10)), (6, .int (nI 0)), (2, .int (nI (1 + K))), (0, .ref (a 0)), (1, .int (nI y))]) hx hb dX2_proofHolds_109 hl (by decide) rfl (fun ls hl => ?_)
          refine lv_iinc (v := nI (0 + 1)) (lv' := [(6, .int (nI (0 + 1))), (5, .int (nI (p_nx (n - 1) y))), (4, .int (nI ((0 * 26) + 0))), (3, .ref (a 10)), (2, .int (nI (1 + K))), (0, .ref (a 0)), (1, .int (nI y))]) hx hb dX2_proofHolds_111 hl (k := 3) rfl (inc_N 0 1) (by decide) rfl (fun ls hl => ?_)
          refine lv_goto (tgt := 38) hx hb dX2_proofHolds_114 (by decide) ?_
          suffices hloop1 : ∀ (fu1 : Nat) (i : Nat) (da : Nat) (mm : Nat → Int32) (hh : Nat → Int32) (ww : Nat → Int32), (1 ≤ i) → (i ≤ 1 + K) → (∀ j, fp (da + j) = p_due fd fp (n - 1) y i j) → (da + 8 ≤ 1560) → (∀ k, k < i → p_chk fd fp (n - 1) y k = true) → 1 + K - i < fu1 → ∀ (H : Heap) (locs : List Loc) (ls : Array Slot), va_P G.1 vwCl (wC G a mm hh ww fb fc fd fr fp n k z t kn pl lf pn) H → va_D A (wC G a mm hh ww fb fc fd fr fp n k z t kn pl lf pn) → va_S A s.heap H locs → lv_has ls 7 [(0, .ref (a 0)), (1, .int (nI y)), (2, .int (nI (1 + K))), (3, .ref (a 10)), (4, .int (nI da)), (5, .int (nI (p_way (n - 1) y i))), (6, .int (nI i))] → W p l e ({ frames := 5, cells := 0, slots := 0, locals := 121 } : Room) s m args below meth c H locs 0 0 Q (F0 m 38 ls []) from hloop1 _ (0 + 1) ((0 * 26) + 0) mu_6 yu_6 wu_6 (Nat.le_refl _) (by omega) (fun j => by show _ = fp (26 * 0 + (if p_by (n - 1) y then 8 else 0) + j); rw [if_neg (by rw [bI_z c91]; decide)]; first | done | (congr 1; omega)) (by omega) (fun k hk => by rw [show k = 0 by omega]; exact chk_T (k := 0) (allN_iff.mp (bI_n c70)) (fun j => by rw [Nat.zero_add]; rfl) hu_6 rfl) (Nat.lt_succ_self _) _ _ _ hP hD hS (lv_sub hl [5, 6, 4, 3, 2, 1, 0] rfl)
          clear hP hD hS hl
          intro fu1
          induction fu1 with
          | zero => intro i da mm hh ww hi1 hi hda hda2 hm hfu; exact absurd hfu (Nat.not_lt_zero _)
          | succ fu1 ih1 =>
            intro i da mm hh ww hi1 hi hda hda2 hm hfu1 H locs ls hP hD hS hl
            refine lv_iload hx hb dX2_proofHolds_38 (lv_at hl 6 rfl) ?_
            refine lv_iload_n hx hb dX2_proofHolds_40 rfl (lv_at hl 2 rfl) ?_
            refine cmp_ge hx hb i (1 + K) 117 (by omega) (by omega) dX2_proofHolds_41 (by decide) (fun c41 => ?_) (fun c41 => ?_)
            · have e117 : i = 1 + K := by omega
              subst e117
              refine lv_iconst (v := nI 1) hx hb dX2_proofHolds_117 (by decide) ?_
              exact ret 118 _ _ _ (nI 1) (mm, hh, ww) dX2_proofHolds_118 (by first | exact Or.inl rfl | exact Or.inr rfl) (⟨K, heK, by rw [decide_eq_true (by omega), Bool.true_and, Nat.add_comm K 1]; exact al_T hm⟩) hP hD hS
            · have hwl := end_le (i := i) hn heK (by omega)
              refine lv_aload_n hx hb dX2_proofHolds_44 rfl (lv_at hl 0 rfl) ?_
              refine va_get (D := G.1) (ci := 2) (v := .ref (a 1)) (C := RX2) (T := TX2) (N := 14) hx hb hts hiX2 hown hK hP 0 rfl rfl 0 (by decide) lk10 (fun _ h9 => h9) rfl dX2_proofHolds_45 ?_
              refine lv_aload_n hx hb dX2_proofHolds_48 rfl (lv_at hl 0 rfl) ?_
              refine va_get (D := G.1) (ci := 2) (v := .ref (a 10)) (C := RX2) (T := TX2) (N := 14) hx hb hts hiX2 hown hK hP 0 rfl rfl 5 (by decide) lk33 (fun _ h9 => h9) rfl dX2_proofHolds_49 ?_
              refine lv_iload hx hb dX2_proofHolds_52 (lv_at hl 6 rfl) ?_
              refine lv_bipush (v := nI 26) hx hb dX2_proofHolds_54 (by decide) ?_
              refine mu_N hx hb i 26 dX2_proofHolds_56 ?_
              refine call_Vv (wr := ([(a 0, .inr (2, [.ref (a 1), .ref (a 5), .ref (a 7), .ref (a 8), .ref (a 9), .ref (a 10), .int (nI n), .int (nI k), .int (nI z), .int (nI t), .int kn, .int (nI pl), .int (nI lf), .int (nI pn)])), (a 5, .inr (0, [.ref (a 6)])), (a 6, .inl (G.2.2.1, 32, .inl fb)), (a 7, .inl (G.2.2.1, 2040, .inl fc)), (a 8, .inl (G.2.2.1, 8, .inl fd)), (a 9, .inl (G.2.2.1, 34, .inl fr))] : va_W)) [.ref (a 10), .int (nI (i * 26))] [] ⟨hx, hb, hml, hown, hts⟩ hK hX hA hP hD hS (c_takeAll l G _ (a 1) (a 2) (a 3) (a 4) (a 10) 1560 (i * 26) mm hh ww fp (by omega) (by omega)) (cwV 2 hts gX2_proofHolds_X1_takeAll rfl rfl rfl (by decide +kernel) ⟨Nat.le_of_ble_eq_true rfl, Nat.le_of_ble_eq_true rfl⟩) 1 1 rfl rfl rfl [1, 2, 3, 4, 10] [0, 5, 6, 7, 8, 9] rfl rfl (by decide) (by decide) (by decide) rfl hl.1 (Nat.le_of_ble_eq_true rfl) dX2_proofHolds_57 ⟨Nat.zero_le _, Nat.zero_le _⟩ (fun u H locs hw hP hD hS => ?_)
              obtain ⟨mu_14, yu_14, wu_14⟩ := u
              have hu_14 : ∀ j, j < 8 → yu_14 j = p_hash fp (i * 26) j := hw
              have hP : va_P G.1 vwCl (wC G a mu_14 yu_14 wu_14 fb fc fd fr fp n k z t kn pl lf pn) H := hP.sub [0, 6, 7, 8, 9, 1, 2, 3, 4, 5, 10] rfl
              have hD : va_D A (wC G a mu_14 yu_14 wu_14 fb fc fd fr fp n k z t kn pl lf pn) := hD.sub [0, 6, 7, 8, 9, 1, 2, 3, 4, 5, 10] (by decide) rfl
              refine lv_aload_n hx hb dX2_proofHolds_60 rfl (lv_at hl 0 rfl) ?_
              refine va_get (D := G.1) (ci := 2) (v := .ref (a 1)) (C := RX2) (T := TX2) (N := 14) hx hb hts hiX2 hown hK hP 0 rfl rfl 0 (by decide) lk10 (fun _ h9 => h9) rfl dX2_proofHolds_61 ?_
              refine lv_aload_n hx hb dX2_proofHolds_64 rfl (lv_at hl 3 rfl) ?_
              refine lv_iload hx hb dX2_proofHolds_65 (lv_at hl 4 rfl) ?_
              refine call_Vi (wr := ([(a 0, .inr (2, [.ref (a 1), .ref (a 5), .ref (a 7), .ref (a 8), .ref (a 9), .ref (a 10), .int (nI n), .int (nI k), .int (nI z), .int (nI t), .int kn, .int (nI pl), .int (nI lf), .int (nI pn)])), (a 2, .inl (G.2.2.1, 8, .inl mu_14)), (a 4, .inl (G.2.2.1, 64, .inl wu_14)), (a 5, .inr (0, [.ref (a 6)])), (a 6, .inl (G.2.2.1, 32, .inl fb)), (a 7, .inl (G.2.2.1, 2040, .inl fc)), (a 8, .inl (G.2.2.1, 8, .inl fd)), (a 9, .inl (G.2.2.1, 34, .inl fr))] : va_W)) [.ref (a 10), .int (nI da)] [] ⟨hx, hb, hml, hown, hts⟩ hK hX hA hP hD hS (c_isAt l G _ (a 1) (a 2) (a 3) (a 4) (a 10) 1560 da yu_14 fp (by omega) (by omega)) (cwV 2 hts gX2_proofHolds_X1_isAt rfl rfl rfl (by decide +kernel) ⟨Nat.le_of_ble_eq_true rfl, Nat.le_of_ble_eq_true rfl⟩) 1 1 rfl rfl rfl [1, 3, 10] [0, 2, 4, 5, 6, 7, 8, 9] rfl rfl (by decide) (by decide) (by decide) rfl hl.1 (Nat.le_of_ble_eq_true rfl) dX2_proofHolds_67 ⟨Nat.zero_le _, Nat.zero_le _⟩ (fun r_15 u H locs hw hP hD hS => ?_)
              obtain rfl := hw
              have hP : va_P G.1 vwCl (wC G a mu_14 yu_14 wu_14 fb fc fd fr fp n k z t kn pl lf pn) H := hP.sub [0, 8, 1, 9, 2, 3, 4, 5, 6, 7, 10] rfl
              have hD : va_D A (wC G a mu_14 yu_14 wu_14 fb fc fd fr fp n k z t kn pl lf pn) := hD.sub [0, 8, 1, 9, 2, 3, 4, 5, 6, 7, 10] (by decide) rfl
              refine lv_if_ne (tgt := 75) hx hb dX2_proofHolds_70 (by decide) (fun c70 => ?_) (fun c70 => ?_)
              · refine lv_aload_n hx hb dX2_proofHolds_75 rfl (lv_at hl 0 rfl) ?_
                refine va_get (D := G.1) (ci := 2) (v := .ref (a 10)) (C := RX2) (T := TX2) (N := 14) hx hb hts hiX2 hown hK hP 0 rfl rfl 5 (by decide) lk33 (fun _ h9 => h9) rfl dX2_proofHolds_76 ?_
                refine lv_astore_n (lv' := [(3, .ref (a 10)), (0, .ref (a 0)), (1, .int (nI y)), (2, .int (nI (1 + K))), (4, .int (nI da)), (5, .int (nI (p_way (n - 1) y i))), (6, .int (nI i))]) hx hb dX2_proofHolds_79 rfl hl (by decide) rfl (fun ls hl => ?_)
                refine lv_iload hx hb dX2_proofHolds_80 (lv_at hl 6 rfl) ?_
                refine lv_bipush (v := nI 26) hx hb dX2_proofHolds_82 (by decide) ?_
                refine mu_N hx hb i 26 dX2_proofHolds_84 ?_
                refine lv_iload hx hb dX2_proofHolds_85 (lv_at hl 5 rfl) ?_
                refine lv_iload_n hx hb dX2_proofHolds_87 rfl (lv_at hl 2 rfl) ?_
                refine call_Si (wr := ([(a 0, .inr (2, [.ref (a 1), .ref (a 5), .ref (a 7), .ref (a 8), .ref (a 9), .ref (a 10), .int (nI n), .int (nI k), .int (nI z), .int (nI t), .int kn, .int (nI pl), .int (nI lf), .int (nI pn)])), (a 1, .inr (1, [.ref (a 2), .ref (a 3), .ref (a 4)])), (a 2, .inl (G.2.2.1, 8, .inl mu_14)), (a 3, .inl (G.2.2.1, 8, .inl yu_14)), (a 4, .inl (G.2.2.1, 64, .inl wu_14)), (a 5, .inr (0, [.ref (a 6)])), (a 6, .inl (G.2.2.1, 32, .inl fb)), (a 7, .inl (G.2.2.1, 2040, .inl fc)), (a 8, .inl (G.2.2.1, 8, .inl fd)), (a 9, .inl (G.2.2.1, 34, .inl fr)), (a 10, .inl (G.2.2.1, 1560, .inl fp))] : va_W)) [.int (nI (p_way (n - 1) y i)), .int (nI y)] [.int (nI (i * 26))] ⟨hx, hb, hml, hown, hts⟩ hK hX hA hP hD hS (c_goesBySkip l G _ (p_way (n - 1) y i) y (by omega) (by omega)) (va_cwS 2 hts gX2_proofHolds_X2_goesBySkip rfl rfl rfl (by decide +kernel) ⟨Nat.le_of_ble_eq_true rfl, Nat.le_of_ble_eq_true rfl⟩) [] [0, 1, 2, 3, 4, 5, 6, 7, 8, 9, 10] rfl rfl (by decide) (by decide) (by decide) rfl hl.1 (Nat.le_of_ble_eq_true rfl) dX2_proofHolds_88 ⟨Nat.zero_le _, Nat.zero_le _⟩ (fun r_17 u H locs hw hP hD hS => ?_)
                obtain rfl := hw
                have hP : va_P G.1 vwCl (wC G a mu_14 yu_14 wu_14 fb fc fd fr fp n k z t kn pl lf pn) H := hP
                have hD : va_D A (wC G a mu_14 yu_14 wu_14 fb fc fd fr fp n k z t kn pl lf pn) := hD
                refine lv_if_eq (tgt := 99) hx hb dX2_proofHolds_91 (by decide) (fun c91 => ?_) (fun c91 => ?_)
                · refine lv_iconst (v := nI 0) hx hb dX2_proofHolds_99 (by decide) ?_
                  refine ad_N hx hb (i * 26) 0 dX2_proofHolds_100 ?_
                  refine lv_istore (lv' := [(4, .int (nI ((i * 26) + 0))), (3, .ref (a 10)), (0, .ref (a 0)), (1, .int (nI y)), (2, .int (nI (1 + K))), (5, .int (nI (p_way (n - 1) y i))), (6, .int (nI i))]) hx hb dX2_proofHolds_101 hl (by decide) rfl (fun ls hl => ?_)
                  refine lv_iload hx hb dX2_proofHolds_103 (lv_at hl 5 rfl) ?_
                  refine lv_iload_n hx hb dX2_proofHolds_105 rfl (lv_at hl 3 rfl) ?_
                  refine call_Si (wr := ([(a 0, .inr (2, [.ref (a 1), .ref (a 5), .ref (a 7), .ref (a 8), .ref (a 9), .ref (a 10), .int (nI n), .int (nI k), .int (nI z), .int (nI t), .int kn, .int (nI pl), .int (nI lf), .int (nI pn)])), (a 1, .inr (1, [.ref (a 2), .ref (a 3), .ref (a 4)])), (a 2, .inl (G.2.2.1, 8, .inl mu_14)), (a 3, .inl (G.2.2.1, 8, .inl yu_14)), (a 4, .inl (G.2.2.1, 64, .inl wu_14)), (a 5, .inr (0, [.ref (a 6)])), (a 6, .inl (G.2.2.1, 32, .inl fb)), (a 7, .inl (G.2.2.1, 2040, .inl fc)), (a 8, .inl (G.2.2.1, 8, .inl fd)), (a 9, .inl (G.2.2.1, 34, .inl fr)), (a 10, .inl (G.2.2.1, 1560, .inl fp))] : va_W)) [.int (nI (p_way (n - 1) y i)), .int (nI y)] [] ⟨hx, hb, hml, hown, hts⟩ hK hX hA hP hD hS (c_nextOnWay l G _ (p_way (n - 1) y i) y (by omega) (by omega)) (va_cwS 2 hts gX2_proofHolds_X2_nextOnWay rfl rfl rfl (by decide +kernel) ⟨Nat.le_of_ble_eq_true rfl, Nat.le_of_ble_eq_true rfl⟩) [] [0, 1, 2, 3, 4, 5, 6, 7, 8, 9, 10] rfl rfl (by decide) (by decide) (by decide) rfl hl.1 (Nat.le_of_ble_eq_true rfl) dX2_proofHolds_106 ⟨Nat.zero_le _, Nat.zero_le _⟩ (fun r_19 u H locs hw hP hD hS => ?_)
                  obtain rfl := hw
                  have hP : va_P G.1 vwCl (wC G a mu_14 yu_14 wu_14 fb fc fd fr fp n k z t kn pl lf pn) H := hP
                  have hD : va_D A (wC G a mu_14 yu_14 wu_14 fb fc fd fr fp n k z t kn pl lf pn) := hD
                  refine lv_istore (lv' := [(5, .int (nI (p_nx (p_way (n - 1) y i) y))), (4, .int (nI ((i * 26) + 0))), (3, .ref (a 10)), (0, .ref (a 0)), (1, .int (nI y)), (2, .int (nI (1 + K))), (6, .int (nI i))]) hx hb dX2_proofHolds_109 hl (by decide) rfl (fun ls hl => ?_)
                  refine lv_iinc (v := nI (i + 1)) (lv' := [(6, .int (nI (i + 1))), (5, .int (nI (p_nx (p_way (n - 1) y i) y))), (4, .int (nI ((i * 26) + 0))), (3, .ref (a 10)), (0, .ref (a 0)), (1, .int (nI y)), (2, .int (nI (1 + K)))]) hx hb dX2_proofHolds_111 hl (k := 6) rfl (inc_N i 1) (by decide) rfl (fun ls hl => ?_)
                  refine lv_goto (tgt := 38) hx hb dX2_proofHolds_114 (by decide) ?_
                  exact ih1 (i + 1) ((i * 26) + 0) mu_14 yu_14 wu_14 (by omega) (by omega) (fun j => by show _ = fp (26 * i + (if p_by (p_way (n - 1) y i) y then 8 else 0) + j); rw [if_neg (by rw [bI_z c91]; decide)]; first | done | (congr 1; omega)) (by omega) (lt_s hm (chk_T (k := i) (allN_iff.mp (bI_n c70)) hda hu_14 (by omega))) (by omega) _ _ _ hP hD hS (lv_sub hl [4, 5, 6, 3, 2, 1, 0] rfl)
                · refine lv_bipush (v := nI 8) hx hb dX2_proofHolds_94 (by decide) ?_
                  refine lv_goto (tgt := 100) hx hb dX2_proofHolds_96 (by decide) ?_
                  refine ad_N hx hb (i * 26) 8 dX2_proofHolds_100 ?_
                  refine lv_istore (lv' := [(4, .int (nI ((i * 26) + 8))), (3, .ref (a 10)), (0, .ref (a 0)), (1, .int (nI y)), (2, .int (nI (1 + K))), (5, .int (nI (p_way (n - 1) y i))), (6, .int (nI i))]) hx hb dX2_proofHolds_101 hl (by decide) rfl (fun ls hl => ?_)
                  refine lv_iload hx hb dX2_proofHolds_103 (lv_at hl 5 rfl) ?_
                  refine lv_iload_n hx hb dX2_proofHolds_105 rfl (lv_at hl 3 rfl) ?_
                  refine call_Si (wr := ([(a 0, .inr (2, [.ref (a 1), .ref (a 5), .ref (a 7), .ref (a 8), .ref (a 9), .ref (a 10), .int (nI n), .int (nI k), .int (nI z), .int (nI t), .int kn, .int (nI pl), .int (nI lf), .int (nI pn)])), (a 1, .inr (1, [.ref (a 2), .ref (a 3), .ref (a 4)])), (a 2, .inl (G.2.2.1, 8, .inl mu_14)), (a 3, .inl (G.2.2.1, 8, .inl yu_14)), (a 4, .inl (G.2.2.1, 64, .inl wu_14)), (a 5, .inr (0, [.ref (a 6)])), (a 6, .inl (G.2.2.1, 32, .inl fb)), (a 7, .inl (G.2.2.1, 2040, .inl fc)), (a 8, .inl (G.2.2.1, 8, .inl fd)), (a 9, .inl (G.2.2.1, 34, .inl fr)), (a 10, .inl (G.2.2.1, 1560, .inl fp))] : va_W)) [.int (nI (p_way (n - 1) y i)), .int (nI y)] [] ⟨hx, hb, hml, hown, hts⟩ hK hX hA hP hD hS (c_nextOnWay l G _ (p_way (n - 1) y i) y (by omega) (by omega)) (va_cwS 2 hts gX2_proofHolds_X2_nextOnWay rfl rfl rfl (by decide +kernel) ⟨Nat.le_of_ble_eq_true rfl, Nat.le_of_ble_eq_true rfl⟩) [] [0, 1, 2, 3, 4, 5, 6, 7, 8, 9, 10] rfl rfl (by decide) (by decide) (by decide) rfl hl.1 (Nat.le_of_ble_eq_true rfl) dX2_proofHolds_106 ⟨Nat.zero_le _, Nat.zero_le _⟩ (fun r_20 u H locs hw hP hD hS => ?_)
                  obtain rfl := hw
                  have hP : va_P G.1 vwCl (wC G a mu_14 yu_14 wu_14 fb fc fd fr fp n k z t kn pl lf pn) H := hP
                  have hD : va_D A (wC G a mu_14 yu_14 wu_14 fb fc fd fr fp n k z t kn pl lf pn) := hD
                  refine lv_istore (lv' := [(5, .int (nI (p_nx (p_way (n - 1) y i) y))), (4, .int (nI ((i * 26) + 8))), (3, .ref (a 10)), (0, .ref (a 0)), (1, .int (nI y)), (2, .int (nI (1 + K))), (6, .int (nI i))]) hx hb dX2_proofHolds_109 hl (by decide) rfl (fun ls hl => ?_)
                  refine lv_iinc (v := nI (i + 1)) (lv' := [(6, .int (nI (i + 1))), (5, .int (nI (p_nx (p_way (n - 1) y i) y))), (4, .int (nI ((i * 26) + 8))), (3, .ref (a 10)), (0, .ref (a 0)), (1, .int (nI y)), (2, .int (nI (1 + K)))]) hx hb dX2_proofHolds_111 hl (k := 6) rfl (inc_N i 1) (by decide) rfl (fun ls hl => ?_)
                  refine lv_goto (tgt := 38) hx hb dX2_proofHolds_114 (by decide) ?_
                  exact ih1 (i + 1) ((i * 26) + 8) mu_14 yu_14 wu_14 (by omega) (by omega) (fun j => by show _ = fp (26 * i + (if p_by (p_way (n - 1) y i) y then 8 else 0) + j); rw [if_pos (bI_n c91)]; first | done | (congr 1; omega)) (by omega) (lt_s hm (chk_T (k := i) (allN_iff.mp (bI_n c70)) hda hu_14 (by omega))) (by omega) _ _ _ hP hD hS (lv_sub hl [4, 5, 6, 3, 2, 1, 0] rfl)
              · refine lv_iconst (v := nI 0) hx hb dX2_proofHolds_73 (by decide) ?_
                exact ret 74 _ _ _ (nI 0) (mu_14, yu_14, wu_14) dX2_proofHolds_74 (by first | exact Or.inl rfl | exact Or.inr rfl) (⟨K, heK, by rw [decide_eq_true (by omega), Bool.true_and]; exact al_F (i := i) (by omega) (chk_F (bI_z c70) hda hu_14 (by omega))⟩) hP hD hS
        · refine lv_bipush (v := nI 8) hx hb dX2_proofHolds_94 (by decide) ?_
          refine lv_goto (tgt := 100) hx hb dX2_proofHolds_96 (by decide) ?_
          refine ad_N hx hb (0 * 26) 8 dX2_proofHolds_100 ?_
          refine lv_istore (lv' := [(4, .int (nI ((0 * 26) + 8))), (3, .ref (a 10)), (6, .int (nI 0)), (5, .int (nI (n - 1))), (2, .int (nI (1 + K))), (0, .ref (a 0)), (1, .int (nI y))]) hx hb dX2_proofHolds_101 hl (by decide) rfl (fun ls hl => ?_)
          refine lv_iload hx hb dX2_proofHolds_103 (lv_at hl 3 rfl) ?_
          refine lv_iload_n hx hb dX2_proofHolds_105 rfl (lv_at hl 6 rfl) ?_
          refine call_Si (wr := ([(a 0, .inr (2, [.ref (a 1), .ref (a 5), .ref (a 7), .ref (a 8), .ref (a 9), .ref (a 10), .int (nI n), .int (nI k), .int (nI z), .int (nI t), .int kn, .int (nI pl), .int (nI lf), .int (nI pn)])), (a 1, .inr (1, [.ref (a 2), .ref (a 3), .ref (a 4)])), (a 2, .inl (G.2.2.1, 8, .inl mu_6)), (a 3, .inl (G.2.2.1, 8, .inl yu_6)), (a 4, .inl (G.2.2.1, 64, .inl wu_6)), (a 5, .inr (0, [.ref (a 6)])), (a 6, .inl (G.2.2.1, 32, .inl fb)), (a 7, .inl (G.2.2.1, 2040, .inl fc)), (a 8, .inl (G.2.2.1, 8, .inl fd)), (a 9, .inl (G.2.2.1, 34, .inl fr)), (a 10, .inl (G.2.2.1, 1560, .inl fp))] : va_W)) [.int (nI (n - 1)), .int (nI y)] [] ⟨hx, hb, hml, hown, hts⟩ hK hX hA hP hD hS (c_nextOnWay l G _ (n - 1) y (by omega) (by omega)) (va_cwS 2 hts gX2_proofHolds_X2_nextOnWay rfl rfl rfl (by decide +kernel) ⟨Nat.le_of_ble_eq_true rfl, Nat.le_of_ble_eq_true rfl⟩) [] [0, 1, 2, 3, 4, 5, 6, 7, 8, 9, 10] rfl rfl (by decide) (by decide) (by decide) rfl hl.1 (Nat.le_of_ble_eq_true rfl) dX2_proofHolds_106 ⟨Nat.zero_le _, Nat.zero_le _⟩ (fun r_21 u H locs hw hP hD hS => ?_)
          obtain rfl := hw
          have hP : va_P G.1 vwCl (wC G a mu_6 yu_6 wu_6 fb fc fd fr fp n k z t kn pl lf pn) H := hP
          have hD : va_D A (wC G a mu_6 yu_6 wu_6 fb fc fd fr fp n k z t kn pl lf pn) := hD
          refine lv_istore (lv' := [(5, .int (nI (p_nx (n - 1) y))), (4, .int (nI ((0 * 26) + 8))), (3, .ref (a 10)), (6, .int (nI 0)), (2, .int (nI (1 + K))), (0, .ref (a 0)), (1, .int (nI y))]) hx hb dX2_proofHolds_109 hl (by decide) rfl (fun ls hl => ?_)
          refine lv_iinc (v := nI (0 + 1)) (lv' := [(6, .int (nI (0 + 1))), (5, .int (nI (p_nx (n - 1) y))), (4, .int (nI ((0 * 26) + 8))), (3, .ref (a 10)), (2, .int (nI (1 + K))), (0, .ref (a 0)), (1, .int (nI y))]) hx hb dX2_proofHolds_111 hl (k := 3) rfl (inc_N 0 1) (by decide) rfl (fun ls hl => ?_)
          refine lv_goto (tgt := 38) hx hb dX2_proofHolds_114 (by decide) ?_
          suffices hloop1 : ∀ (fu1 : Nat) (i : Nat) (da : Nat) (mm : Nat → Int32) (hh : Nat → Int32) (ww : Nat → Int32), (1 ≤ i) → (i ≤ 1 + K) → (∀ j, fp (da + j) = p_due fd fp (n - 1) y i j) → (da + 8 ≤ 1560) → (∀ k, k < i → p_chk fd fp (n - 1) y k = true) → 1 + K - i < fu1 → ∀ (H : Heap) (locs : List Loc) (ls : Array Slot), va_P G.1 vwCl (wC G a mm hh ww fb fc fd fr fp n k z t kn pl lf pn) H → va_D A (wC G a mm hh ww fb fc fd fr fp n k z t kn pl lf pn) → va_S A s.heap H locs → lv_has ls 7 [(0, .ref (a 0)), (1, .int (nI y)), (2, .int (nI (1 + K))), (3, .ref (a 10)), (4, .int (nI da)), (5, .int (nI (p_way (n - 1) y i))), (6, .int (nI i))] → W p l e ({ frames := 5, cells := 0, slots := 0, locals := 121 } : Room) s m args below meth c H locs 0 0 Q (F0 m 38 ls []) from hloop1 _ (0 + 1) ((0 * 26) + 8) mu_6 yu_6 wu_6 (Nat.le_refl _) (by omega) (fun j => by show _ = fp (26 * 0 + (if p_by (n - 1) y then 8 else 0) + j); rw [if_pos (bI_n c91)]; first | done | (congr 1; omega)) (by omega) (fun k hk => by rw [show k = 0 by omega]; exact chk_T (k := 0) (allN_iff.mp (bI_n c70)) (fun j => by rw [Nat.zero_add]; rfl) hu_6 rfl) (Nat.lt_succ_self _) _ _ _ hP hD hS (lv_sub hl [5, 6, 4, 3, 2, 1, 0] rfl)
          clear hP hD hS hl
          intro fu1
          induction fu1 with
          | zero => intro i da mm hh ww hi1 hi hda hda2 hm hfu; exact absurd hfu (Nat.not_lt_zero _)
          | succ fu1 ih1 =>
            intro i da mm hh ww hi1 hi hda hda2 hm hfu1 H locs ls hP hD hS hl
            refine lv_iload hx hb dX2_proofHolds_38 (lv_at hl 6 rfl) ?_
            refine lv_iload_n hx hb dX2_proofHolds_40 rfl (lv_at hl 2 rfl) ?_
            refine cmp_ge hx hb i (1 + K) 117 (by omega) (by omega) dX2_proofHolds_41 (by decide) (fun c41 => ?_) (fun c41 => ?_)
            · have e117 : i = 1 + K := by omega
              subst e117
              refine lv_iconst (v := nI 1) hx hb dX2_proofHolds_117 (by decide) ?_
              exact ret 118 _ _ _ (nI 1) (mm, hh, ww) dX2_proofHolds_118 (by first | exact Or.inl rfl | exact Or.inr rfl) (⟨K, heK, by rw [decide_eq_true (by omega), Bool.true_and, Nat.add_comm K 1]; exact al_T hm⟩) hP hD hS
            · have hwl := end_le (i := i) hn heK (by omega)
              refine lv_aload_n hx hb dX2_proofHolds_44 rfl (lv_at hl 0 rfl) ?_
              refine va_get (D := G.1) (ci := 2) (v := .ref (a 1)) (C := RX2) (T := TX2) (N := 14) hx hb hts hiX2 hown hK hP 0 rfl rfl 0 (by decide) lk10 (fun _ h9 => h9) rfl dX2_proofHolds_45 ?_
              refine lv_aload_n hx hb dX2_proofHolds_48 rfl (lv_at hl 0 rfl) ?_
              refine va_get (D := G.1) (ci := 2) (v := .ref (a 10)) (C := RX2) (T := TX2) (N := 14) hx hb hts hiX2 hown hK hP 0 rfl rfl 5 (by decide) lk33 (fun _ h9 => h9) rfl dX2_proofHolds_49 ?_
              refine lv_iload hx hb dX2_proofHolds_52 (lv_at hl 6 rfl) ?_
              refine lv_bipush (v := nI 26) hx hb dX2_proofHolds_54 (by decide) ?_
              refine mu_N hx hb i 26 dX2_proofHolds_56 ?_
              refine call_Vv (wr := ([(a 0, .inr (2, [.ref (a 1), .ref (a 5), .ref (a 7), .ref (a 8), .ref (a 9), .ref (a 10), .int (nI n), .int (nI k), .int (nI z), .int (nI t), .int kn, .int (nI pl), .int (nI lf), .int (nI pn)])), (a 5, .inr (0, [.ref (a 6)])), (a 6, .inl (G.2.2.1, 32, .inl fb)), (a 7, .inl (G.2.2.1, 2040, .inl fc)), (a 8, .inl (G.2.2.1, 8, .inl fd)), (a 9, .inl (G.2.2.1, 34, .inl fr))] : va_W)) [.ref (a 10), .int (nI (i * 26))] [] ⟨hx, hb, hml, hown, hts⟩ hK hX hA hP hD hS (c_takeAll l G _ (a 1) (a 2) (a 3) (a 4) (a 10) 1560 (i * 26) mm hh ww fp (by omega) (by omega)) (cwV 2 hts gX2_proofHolds_X1_takeAll rfl rfl rfl (by decide +kernel) ⟨Nat.le_of_ble_eq_true rfl, Nat.le_of_ble_eq_true rfl⟩) 1 1 rfl rfl rfl [1, 2, 3, 4, 10] [0, 5, 6, 7, 8, 9] rfl rfl (by decide) (by decide) (by decide) rfl hl.1 (Nat.le_of_ble_eq_true rfl) dX2_proofHolds_57 ⟨Nat.zero_le _, Nat.zero_le _⟩ (fun u H locs hw hP hD hS => ?_)
              obtain ⟨mu_24, yu_24, wu_24⟩ := u
              have hu_24 : ∀ j, j < 8 → yu_24 j = p_hash fp (i * 26) j := hw
              have hP : va_P G.1 vwCl (wC G a mu_24 yu_24 wu_24 fb fc fd fr fp n k z t kn pl lf pn) H := hP.sub [0, 6, 7, 8, 9, 1, 2, 3, 4, 5, 10] rfl
              have hD : va_D A (wC G a mu_24 yu_24 wu_24 fb fc fd fr fp n k z t kn pl lf pn) := hD.sub [0, 6, 7, 8, 9, 1, 2, 3, 4, 5, 10] (by decide) rfl
              refine lv_aload_n hx hb dX2_proofHolds_60 rfl (lv_at hl 0 rfl) ?_
              refine va_get (D := G.1) (ci := 2) (v := .ref (a 1)) (C := RX2) (T := TX2) (N := 14) hx hb hts hiX2 hown hK hP 0 rfl rfl 0 (by decide) lk10 (fun _ h9 => h9) rfl dX2_proofHolds_61 ?_
              refine lv_aload_n hx hb dX2_proofHolds_64 rfl (lv_at hl 3 rfl) ?_
              refine lv_iload hx hb dX2_proofHolds_65 (lv_at hl 4 rfl) ?_
              refine call_Vi (wr := ([(a 0, .inr (2, [.ref (a 1), .ref (a 5), .ref (a 7), .ref (a 8), .ref (a 9), .ref (a 10), .int (nI n), .int (nI k), .int (nI z), .int (nI t), .int kn, .int (nI pl), .int (nI lf), .int (nI pn)])), (a 2, .inl (G.2.2.1, 8, .inl mu_24)), (a 4, .inl (G.2.2.1, 64, .inl wu_24)), (a 5, .inr (0, [.ref (a 6)])), (a 6, .inl (G.2.2.1, 32, .inl fb)), (a 7, .inl (G.2.2.1, 2040, .inl fc)), (a 8, .inl (G.2.2.1, 8, .inl fd)), (a 9, .inl (G.2.2.1, 34, .inl fr))] : va_W)) [.ref (a 10), .int (nI da)] [] ⟨hx, hb, hml, hown, hts⟩ hK hX hA hP hD hS (c_isAt l G _ (a 1) (a 2) (a 3) (a 4) (a 10) 1560 da yu_24 fp (by omega) (by omega)) (cwV 2 hts gX2_proofHolds_X1_isAt rfl rfl rfl (by decide +kernel) ⟨Nat.le_of_ble_eq_true rfl, Nat.le_of_ble_eq_true rfl⟩) 1 1 rfl rfl rfl [1, 3, 10] [0, 2, 4, 5, 6, 7, 8, 9] rfl rfl (by decide) (by decide) (by decide) rfl hl.1 (Nat.le_of_ble_eq_true rfl) dX2_proofHolds_67 ⟨Nat.zero_le _, Nat.zero_le _⟩ (fun r_25 u H locs hw hP hD hS => ?_)
              obtain rfl := hw
              have hP : va_P G.1 vwCl (wC G a mu_24 yu_24 wu_24 fb fc fd fr fp n k z t kn pl lf pn) H := hP.sub [0, 8, 1, 9, 2, 3, 4, 5, 6, 7, 10] rfl
              have hD : va_D A (wC G a mu_24 yu_24 wu_24 fb fc fd fr fp n k z t kn pl lf pn) := hD.sub [0, 8, 1, 9, 2, 3, 4, 5, 6, 7, 10] (by decide) rfl
              refine lv_if_ne (tgt := 75) hx hb dX2_proofHolds_70 (by decide) (fun c70 => ?_) (fun c70 => ?_)
              · refine lv_aload_n hx hb dX2_proofHolds_75 rfl (lv_at hl 0 rfl) ?_
                refine va_get (D := G.1) (ci := 2) (v := .ref (a 10)) (C := RX2) (T := TX2) (N := 14) hx hb hts hiX2 hown hK hP 0 rfl rfl 5 (by decide) lk33 (fun _ h9 => h9) rfl dX2_proofHolds_76 ?_
                refine lv_astore_n (lv' := [(3, .ref (a 10)), (0, .ref (a 0)), (1, .int (nI y)), (2, .int (nI (1 + K))), (4, .int (nI da)), (5, .int (nI (p_way (n - 1) y i))), (6, .int (nI i))]) hx hb dX2_proofHolds_79 rfl hl (by decide) rfl (fun ls hl => ?_)
                refine lv_iload hx hb dX2_proofHolds_80 (lv_at hl 6 rfl) ?_
                refine lv_bipush (v := nI 26) hx hb dX2_proofHolds_82 (by decide) ?_
                refine mu_N hx hb i 26 dX2_proofHolds_84 ?_
                refine lv_iload hx hb dX2_proofHolds_85 (lv_at hl 5 rfl) ?_
                refine lv_iload_n hx hb dX2_proofHolds_87 rfl (lv_at hl 2 rfl) ?_
                refine call_Si (wr := ([(a 0, .inr (2, [.ref (a 1), .ref (a 5), .ref (a 7), .ref (a 8), .ref (a 9), .ref (a 10), .int (nI n), .int (nI k), .int (nI z), .int (nI t), .int kn, .int (nI pl), .int (nI lf), .int (nI pn)])), (a 1, .inr (1, [.ref (a 2), .ref (a 3), .ref (a 4)])), (a 2, .inl (G.2.2.1, 8, .inl mu_24)), (a 3, .inl (G.2.2.1, 8, .inl yu_24)), (a 4, .inl (G.2.2.1, 64, .inl wu_24)), (a 5, .inr (0, [.ref (a 6)])), (a 6, .inl (G.2.2.1, 32, .inl fb)), (a 7, .inl (G.2.2.1, 2040, .inl fc)), (a 8, .inl (G.2.2.1, 8, .inl fd)), (a 9, .inl (G.2.2.1, 34, .inl fr)), (a 10, .inl (G.2.2.1, 1560, .inl fp))] : va_W)) [.int (nI (p_way (n - 1) y i)), .int (nI y)] [.int (nI (i * 26))] ⟨hx, hb, hml, hown, hts⟩ hK hX hA hP hD hS (c_goesBySkip l G _ (p_way (n - 1) y i) y (by omega) (by omega)) (va_cwS 2 hts gX2_proofHolds_X2_goesBySkip rfl rfl rfl (by decide +kernel) ⟨Nat.le_of_ble_eq_true rfl, Nat.le_of_ble_eq_true rfl⟩) [] [0, 1, 2, 3, 4, 5, 6, 7, 8, 9, 10] rfl rfl (by decide) (by decide) (by decide) rfl hl.1 (Nat.le_of_ble_eq_true rfl) dX2_proofHolds_88 ⟨Nat.zero_le _, Nat.zero_le _⟩ (fun r_27 u H locs hw hP hD hS => ?_)
                obtain rfl := hw
                have hP : va_P G.1 vwCl (wC G a mu_24 yu_24 wu_24 fb fc fd fr fp n k z t kn pl lf pn) H := hP
                have hD : va_D A (wC G a mu_24 yu_24 wu_24 fb fc fd fr fp n k z t kn pl lf pn) := hD
                refine lv_if_eq (tgt := 99) hx hb dX2_proofHolds_91 (by decide) (fun c91 => ?_) (fun c91 => ?_)
                · refine lv_iconst (v := nI 0) hx hb dX2_proofHolds_99 (by decide) ?_
                  refine ad_N hx hb (i * 26) 0 dX2_proofHolds_100 ?_
                  refine lv_istore (lv' := [(4, .int (nI ((i * 26) + 0))), (3, .ref (a 10)), (0, .ref (a 0)), (1, .int (nI y)), (2, .int (nI (1 + K))), (5, .int (nI (p_way (n - 1) y i))), (6, .int (nI i))]) hx hb dX2_proofHolds_101 hl (by decide) rfl (fun ls hl => ?_)
                  refine lv_iload hx hb dX2_proofHolds_103 (lv_at hl 5 rfl) ?_
                  refine lv_iload_n hx hb dX2_proofHolds_105 rfl (lv_at hl 3 rfl) ?_
                  refine call_Si (wr := ([(a 0, .inr (2, [.ref (a 1), .ref (a 5), .ref (a 7), .ref (a 8), .ref (a 9), .ref (a 10), .int (nI n), .int (nI k), .int (nI z), .int (nI t), .int kn, .int (nI pl), .int (nI lf), .int (nI pn)])), (a 1, .inr (1, [.ref (a 2), .ref (a 3), .ref (a 4)])), (a 2, .inl (G.2.2.1, 8, .inl mu_24)), (a 3, .inl (G.2.2.1, 8, .inl yu_24)), (a 4, .inl (G.2.2.1, 64, .inl wu_24)), (a 5, .inr (0, [.ref (a 6)])), (a 6, .inl (G.2.2.1, 32, .inl fb)), (a 7, .inl (G.2.2.1, 2040, .inl fc)), (a 8, .inl (G.2.2.1, 8, .inl fd)), (a 9, .inl (G.2.2.1, 34, .inl fr)), (a 10, .inl (G.2.2.1, 1560, .inl fp))] : va_W)) [.int (nI (p_way (n - 1) y i)), .int (nI y)] [] ⟨hx, hb, hml, hown, hts⟩ hK hX hA hP hD hS (c_nextOnWay l G _ (p_way (n - 1) y i) y (by omega) (by omega)) (va_cwS 2 hts gX2_proofHolds_X2_nextOnWay rfl rfl rfl (by decide +kernel) ⟨Nat.le_of_ble_eq_true rfl, Nat.le_of_ble_eq_true rfl⟩) [] [0, 1, 2, 3, 4, 5, 6, 7, 8, 9, 10] rfl rfl (by decide) (by decide) (by decide) rfl hl.1 (Nat.le_of_ble_eq_true rfl) dX2_proofHolds_106 ⟨Nat.zero_le _, Nat.zero_le _⟩ (fun r_29 u H locs hw hP hD hS => ?_)
                  obtain rfl := hw
                  have hP : va_P G.1 vwCl (wC G a mu_24 yu_24 wu_24 fb fc fd fr fp n k z t kn pl lf pn) H := hP
                  have hD : va_D A (wC G a mu_24 yu_24 wu_24 fb fc fd fr fp n k z t kn pl lf pn) := hD
                  refine lv_istore (lv' := [(5, .int (nI (p_nx (p_way (n - 1) y i) y))), (4, .int (nI ((i * 26) + 0))), (3, .ref (a 10)), (0, .ref (a 0)), (1, .int (nI y)), (2, .int (nI (1 + K))), (6, .int (nI i))]) hx hb dX2_proofHolds_109 hl (by decide) rfl (fun ls hl => ?_)
                  refine lv_iinc (v := nI (i + 1)) (lv' := [(6, .int (nI (i + 1))), (5, .int (nI (p_nx (p_way (n - 1) y i) y))), (4, .int (nI ((i * 26) + 0))), (3, .ref (a 10)), (0, .ref (a 0)), (1, .int (nI y)), (2, .int (nI (1 + K)))]) hx hb dX2_proofHolds_111 hl (k := 6) rfl (inc_N i 1) (by decide) rfl (fun ls hl => ?_)
                  refine lv_goto (tgt := 38) hx hb dX2_proofHolds_114 (by decide) ?_
                  exact ih1 (i + 1) ((i * 26) + 0) mu_24 yu_24 wu_24 (by omega) (by omega) (fun j => by show _ = fp (26 * i + (if p_by (p_way (n - 1) y i) y then 8 else 0) + j); rw [if_neg (by rw [bI_z c91]; decide)]; first | done | (congr 1; omega)) (by omega) (lt_s hm (chk_T (k := i) (allN_iff.mp (bI_n c70)) hda hu_24 (by omega))) (by omega) _ _ _ hP hD hS (lv_sub hl [4, 5, 6, 3, 2, 1, 0] rfl)
                · refine lv_bipush (v := nI 8) hx hb dX2_proofHolds_94 (by decide) ?_
                  refine lv_goto (tgt := 100) hx hb dX2_proofHolds_96 (by decide) ?_
                  refine ad_N hx hb (i * 26) 8 dX2_proofHolds_100 ?_
                  refine lv_istore (lv' := [(4, .int (nI ((i * 26) + 8))), (3, .ref (a 10)), (0, .ref (a 0)), (1, .int (nI y)), (2, .int (nI (1 + K))), (5, .int (nI (p_way (n - 1) y i))), (6, .int (nI i))]) hx hb dX2_proofHolds_101 hl (by decide) rfl (fun ls hl => ?_)
                  refine lv_iload hx hb dX2_proofHolds_103 (lv_at hl 5 rfl) ?_
                  refine lv_iload_n hx hb dX2_proofHolds_105 rfl (lv_at hl 3 rfl) ?_
                  refine call_Si (wr := ([(a 0, .inr (2, [.ref (a 1), .ref (a 5), .ref (a 7), .ref (a 8), .ref (a 9), .ref (a 10), .int (nI n), .int (nI k), .int (nI z), .int (nI t), .int kn, .int (nI pl), .int (nI lf), .int (nI pn)])), (a 1, .inr (1, [.ref (a 2), .ref (a 3), .ref (a 4)])), (a 2, .inl (G.2.2.1, 8, .inl mu_24)), (a 3, .inl (G.2.2.1, 8, .inl yu_24)), (a 4, .inl (G.2.2.1, 64, .inl wu_24)), (a 5, .inr (0, [.ref (a 6)])), (a 6, .inl (G.2.2.1, 32, .inl fb)), (a 7, .inl (G.2.2.1, 2040, .inl fc)), (a 8, .inl (G.2.2.1, 8, .inl fd)), (a 9, .inl (G.2.2.1, 34, .inl fr)), (a 10, .inl (G.2.2.1, 1560, .inl fp))] : va_W)) [.int (nI (p_way (n - 1) y i)), .int (nI y)] [] ⟨hx, hb, hml, hown, hts⟩ hK hX hA hP hD hS (c_nextOnWay l G _ (p_way (n - 1) y i) y (by omega) (by omega)) (va_cwS 2 hts gX2_proofHolds_X2_nextOnWay rfl rfl rfl (by decide +kernel) ⟨Nat.le_of_ble_eq_true rfl, Nat.le_of_ble_eq_true rfl⟩) [] [0, 1, 2, 3, 4, 5, 6, 7, 8, 9, 10] rfl rfl (by decide) (by decide) (by decide) rfl hl.1 (Nat.le_of_ble_eq_true rfl) dX2_proofHolds_106 ⟨Nat.zero_le _, Nat.zero_le _⟩ (fun r_30 u H locs hw hP hD hS => ?_)
                  obtain rfl := hw
                  have hP : va_P G.1 vwCl (wC G a mu_24 yu_24 wu_24 fb fc fd fr fp n k z t kn pl lf pn) H := hP
                  have hD : va_D A (wC G a mu_24 yu_24 wu_24 fb fc fd fr fp n k z t kn pl lf pn) := hD
                  refine lv_istore (lv' := [(5, .int (nI (p_nx (p_way (n - 1) y i) y))), (4, .int (nI ((i * 26) + 8))), (3, .ref (a 10)), (0, .ref (a 0)), (1, .int (nI y)), (2, .int (nI (1 + K))), (6, .int (nI i))]) hx hb dX2_proofHolds_109 hl (by decide) rfl (fun ls hl => ?_)
                  refine lv_iinc (v := nI (i + 1)) (lv' := [(6, .int (nI (i + 1))), (5, .int (nI (p_nx (p_way (n - 1) y i) y))), (4, .int (nI ((i * 26) + 8))), (3, .ref (a 10)), (0, .ref (a 0)), (1, .int (nI y)), (2, .int (nI (1 + K)))]) hx hb dX2_proofHolds_111 hl (k := 6) rfl (inc_N i 1) (by decide) rfl (fun ls hl => ?_)
                  refine lv_goto (tgt := 38) hx hb dX2_proofHolds_114 (by decide) ?_
                  exact ih1 (i + 1) ((i * 26) + 8) mu_24 yu_24 wu_24 (by omega) (by omega) (fun j => by show _ = fp (26 * i + (if p_by (p_way (n - 1) y i) y then 8 else 0) + j); rw [if_pos (bI_n c91)]; first | done | (congr 1; omega)) (by omega) (lt_s hm (chk_T (k := i) (allN_iff.mp (bI_n c70)) hda hu_24 (by omega))) (by omega) _ _ _ hP hD hS (lv_sub hl [4, 5, 6, 3, 2, 1, 0] rfl)
              · refine lv_iconst (v := nI 0) hx hb dX2_proofHolds_73 (by decide) ?_
                exact ret 74 _ _ _ (nI 0) (mu_24, yu_24, wu_24) dX2_proofHolds_74 (by first | exact Or.inl rfl | exact Or.inr rfl) (⟨K, heK, by rw [decide_eq_true (by omega), Bool.true_and]; exact al_F (i := i) (by omega) (chk_F (bI_z c70) hda hu_24 (by omega))⟩) hP hD hS
      · refine lv_iconst (v := nI 0) hx hb dX2_proofHolds_73 (by decide) ?_
        exact ret 74 _ _ _ (nI 0) (mu_6, yu_6, wu_6) dX2_proofHolds_74 (by first | exact Or.inl rfl | exact Or.inr rfl) (⟨K, heK, by rw [decide_eq_true (by omega), Bool.true_and]; exact al_F (i := 0) (by omega) (chk_F (bI_z c70) (fun j => by rw [Nat.zero_add]; rfl) hu_6 rfl)⟩) hP hD hS
  · refine lv_iconst (v := nI 0) hx hb dX2_proofHolds_17 (by decide) ?_
    exact ret 18 _ _ _ (nI 0) (fm, fh, fw) dX2_proofHolds_18 (by first | exact Or.inl rfl | exact Or.inr rfl) (⟨K, heK, by rw [decide_eq_false (by omega)]; rfl⟩) hP hD hS
set_option maxHeartbeats 4000000 in
set_option maxRecDepth 100000 in
theorem c_check (l : Launch) (G : gG) (sz : Nat) (a : Nat → Nat) (fm fh fw fb fc fd fr fp : Nat → Int32) (n k z t : Nat) (kn : Int32) (pl lf pn : Nat) (x : Int32) (hn : n ≤ 60) (hk : k ≤ 8) (hz : z ≤ 20) (ht : t ≤ 100000) (hpl : pl ≤ 60) (hlf : lf ≤ 6) (hpn : pn ≤ 1560)  : MetI l yX2_check wsX2_check ({ frames := 6, cells := 0, slots := 0, locals := 147 } : Room) [.ref (a 0), .int x] G (wC G a fm fh fw fb fc fd fr fp n k z t kn pl lf pn) sz (fun u : (Nat → Int32) × (Nat → Int32) × (Nat → Int32) => wC G a u.1 u.2.1 u.2.2 fb fc fd fr fp n k z t kn pl lf pn) (fun r u => (fun r _ _ _ => q_check fd fp n pn x r) r u.1 u.2.1 u.2.2) := by
  refine ent_i _ cX2_check 2 RX2 (by decide) rfl rfl (Nat.le_of_ble_eq_true rfl) ?_
  intro p e s m args below meth c A Q ls hx hb hml hts hown hA hK hX ret hl hP hD hS
  have hl : lv_has ls 2 [(0, .ref (a 0)), (1, .int x)] := hl
  refine lv_aload_n hx hb dX2_check_0 rfl (lv_at hl 0 rfl) ?_
  refine lv_iload_n hx hb dX2_check_1 rfl (lv_at hl 1 rfl) ?_
  refine call_Vi (wr := ([] : va_W)) [.int x] [] ⟨hx, hb, hml, hown, hts⟩ hK hX hA hP hD hS (c_hasEntry l G _ a fm fh fw fb fc fd fr fp n k z t kn pl lf pn x (by omega) (by omega) (by omega) (by omega) (by omega) (by omega) (by omega)) (cwV 1 hts gX2_check_X2_hasEntry rfl rfl rfl (by decide +kernel) ⟨Nat.le_of_ble_eq_true rfl, Nat.le_of_ble_eq_true rfl⟩) 2 0 rfl rfl rfl [0, 1, 2, 3, 4, 5, 6, 7, 8, 9, 10] [] rfl rfl (by decide) (by decide) (by decide) rfl hl.1 (Nat.le_of_ble_eq_true rfl) dX2_check_2 ⟨Nat.zero_le _, Nat.zero_le _⟩ (fun r_1 u H locs hw hP hD hS => ?_)
  obtain rfl := hw
  have hP : va_P G.1 vwCl (wC G a fm fh fw fb fc fd fr fp n k z t kn pl lf pn) H := hP
  have hD : va_D A (wC G a fm fh fw fb fc fd fr fp n k z t kn pl lf pn) := hD
  refine lv_if_ne (tgt := 11) hx hb dX2_check_5 (by decide) (fun c5 => ?_) (fun c5 => ?_)
  · obtain ⟨y, hy, rfl⟩ := ok_of (by omega) (bI_n c5)
    refine lv_aload_n hx hb dX2_check_11 rfl (lv_at hl 0 rfl) ?_
    refine lv_iload_n hx hb dX2_check_12 rfl (lv_at hl 1 rfl) ?_
    refine call_Vi (wr := ([] : va_W)) [.int (nI y)] [] ⟨hx, hb, hml, hown, hts⟩ hK hX hA hP hD hS (c_proofHolds l G _ a fm fh fw fb fc fd fr fp n k z t kn pl lf pn y (by omega) (by omega) (by omega) (by omega) (by omega) (by omega) (by omega) (by omega)) (cwV 1 hts gX2_check_X2_proofHolds rfl rfl rfl (by decide +kernel) ⟨Nat.le_of_ble_eq_true rfl, Nat.le_of_ble_eq_true rfl⟩) 2 0 rfl rfl rfl [0, 1, 2, 3, 4, 5, 6, 7, 8, 9, 10] [] rfl rfl (by decide) (by decide) (by decide) rfl hl.1 (Nat.le_of_ble_eq_true rfl) dX2_check_13 ⟨Nat.zero_le _, Nat.zero_le _⟩ (fun r_3 u H locs hw hP hD hS => ?_)
    obtain ⟨mu_4, yu_4, wu_4⟩ := u
    obtain ⟨K, heK, rfl⟩ := hw
    have hP : va_P G.1 vwCl (wC G a mu_4 yu_4 wu_4 fb fc fd fr fp n k z t kn pl lf pn) H := hP
    have hD : va_D A (wC G a mu_4 yu_4 wu_4 fb fc fd fr fp n k z t kn pl lf pn) := hD
    refine lv_if_eq (tgt := 23) hx hb dX2_check_16 (by decide) (fun c16 => ?_) (fun c16 => ?_)
    · refine lv_iconst (v := nI 0) hx hb dX2_check_23 (by decide) ?_
      exact ret 24 _ _ _ (nI 0) (mu_4, yu_4, wu_4) dX2_check_24 (Or.inr ⟨y, K, hy, rfl, heK, by rw [bI_z c16]; rfl⟩) hP hD hS
    · refine lv_iconst (v := nI 1) hx hb dX2_check_19 (by decide) ?_
      refine lv_goto (tgt := 24) hx hb dX2_check_20 (by decide) ?_
      exact ret 24 _ _ _ (nI 1) (mu_4, yu_4, wu_4) dX2_check_24 (Or.inr ⟨y, K, hy, rfl, heK, by rw [bI_n c16]; rfl⟩) hP hD hS
  · refine lv_bipush (v := (-2)) hx hb dX2_check_8 (by decide) ?_
    exact ret 10 _ _ _ (-2) (fm, fh, fw) dX2_check_10 (Or.inl ⟨bI_z c5, rfl⟩) hP hD hS
