/-- the reference's object and all that it holds -/
abbrev wMd (G : gG) (b : Nat → Nat) (gc gd gw gf gp ga gb gh gg gx ge : Nat → Int32) (n k z t : Nat) (kn : Int32) (pl lf pn : Nat) : va_W :=
  [(b 0, .inr (3, [.ref (b 1), .int (nI n), .ref (b 2), .ref (b 3), .int (nI k), .int (nI z), .int (nI t), .int kn, .ref (b 4), .int (nI pl), .int (nI lf), .ref (b 5), .int (nI pn), .ref (b 6), .ref (b 7), .ref (b 8), .ref (b 9), .ref (b 10), .ref (b 11)])),
   (b 1, .inl (G.2.2.1, 2040, .inl gc)), (b 2, .inl (G.2.2.1, 8, .inl gd)), (b 3, .inl (G.2.2.1, 8, .inl gw)), (b 4, .inl (G.2.2.2, 1024, .inl gf)), (b 5, .inl (G.2.2.1, 1600, .inl gp)), (b 6, .inl (G.2.2.1, 64, .inl ga)), (b 7, .inl (G.2.2.1, 8, .inl gb)), (b 8, .inl (G.2.2.1, 8, .inl gh)), (b 9, .inl (G.2.2.1, 8, .inl gg)), (b 10, .inl (G.2.2.1, 64, .inl gx)), (b 11, .inl (G.2.2.1, 26, .inl ge))]
theorem cpy_n0 (f g : Nat → Int32) (a d : Nat) : va_cpy f g a d 0 = g := by
  funext j
  rw [pk_cpy_out (by omega)]
theorem cpy_sd {f g : Nat → Int32} {a d i : Nat} : upd (va_cpy f g a d i) (d + i) (f (a + i)) = va_cpy f g a d (i + 1) := by
  funext j
  by_cases h : j = d + i
  · subst h; rw [pk_us, pk_cpy_in (by omega) (by omega)]; congr 1; omega
  · rw [pk_un h]
    by_cases q : d ≤ j ∧ j < d + i
    · rw [pk_cpy_in q.1 q.2, pk_cpy_in q.1 (by omega)]
    · rw [pk_cpy_out (by omega), pk_cpy_out (by omega)]
theorem cpy_s0 {f g : Nat → Int32} {i : Nat} : upd (va_cpy f g 0 0 i) i (f i) = va_cpy f g 0 0 (i + 1) := by
  have e := cpy_sd (f := f) (g := g) (a := 0) (d := 0) (i := i)
  rw [Nat.zero_add] at e
  exact e
theorem cpy_sa {f g : Nat → Int32} {a i : Nat} : upd (va_cpy f g a 0 i) i (f (a + i)) = va_cpy f g a 0 (i + 1) := by
  have e := cpy_sd (f := f) (g := g) (a := a) (d := 0) (i := i)
  rw [Nat.zero_add] at e
  exact e
theorem cpy_sb {f g : Nat → Int32} {d i : Nat} : upd (va_cpy f g 0 d i) (d + i) (f i) = va_cpy f g 0 d (i + 1) := by
  have e := cpy_sd (f := f) (g := g) (a := 0) (d := d) (i := i)
  rw [Nat.zero_add] at e
  exact e
set_option maxHeartbeats 4000000 in
set_option maxRecDepth 100000 in
theorem m_turned (l : Launch) (G : gG) (sz : Nat) (x k : Int32)  : MetI l yX3_turned wsX3_turned ({ frames := 0, cells := 0, slots := 0, locals := 0 } : Room) [.int x, .int k] G (([] : va_W)) sz (fun _ : Unit => []) (fun r _ => r = p_rot x k) := by
  refine ent_i _ cX3_turned 2 RX3 (by decide) rfl rfl (Nat.le_of_ble_eq_true rfl) ?_
  intro p e s m args below meth c A Q ls hx hb hml hts hown hA hK hX ret hl hP hD hS
  have hl : lv_has ls 2 [(0, .int x), (1, .int k)] := hl
  refine lv_iload_n hx hb dX3_turned_0 rfl (lv_at hl 0 rfl) ?_
  refine lv_iload_n hx hb dX3_turned_1 rfl (lv_at hl 1 rfl) ?_
  refine lv_iushr (v := (p_ush x k)) hx hb dX3_turned_2 rfl ?_
  refine lv_iload_n hx hb dX3_turned_3 rfl (lv_at hl 0 rfl) ?_
  refine lv_bipush (v := nI 32) hx hb dX3_turned_4 (by decide) ?_
  refine lv_iload_n hx hb dX3_turned_6 rfl (lv_at hl 1 rfl) ?_
  refine lv_isub hx hb dX3_turned_7 ?_
  refine lv_ishl hx hb dX3_turned_8 ?_
  refine lv_ior hx hb dX3_turned_9 ?_
  exact ret 10 _ _ _ ((p_ush x k) ||| (x <<< ((nI 32 - k) &&& 31))) () dX3_turned_10 (rfl) hP hD hS
set_option maxHeartbeats 4000000 in
set_option maxRecDepth 100000 in
theorem m_lowest (l : Launch) (G : gG) (sz : Nat) (x : Int32)  : MetI l yX3_lowest wsX3_lowest ({ frames := 0, cells := 0, slots := 0, locals := 0 } : Room) [.int x] G (([] : va_W)) sz (fun _ : Unit => []) (fun r _ => r = x &&& (-x)) := by
  refine ent_i _ cX3_lowest 1 RX3 (by decide) rfl rfl (Nat.le_of_ble_eq_true rfl) ?_
  intro p e s m args below meth c A Q ls hx hb hml hts hown hA hK hX ret hl hP hD hS
  have hl : lv_has ls 1 [(0, .int x)] := hl
  refine lv_iload_n hx hb dX3_lowest_0 rfl (lv_at hl 0 rfl) ?_
  refine lv_iload_n hx hb dX3_lowest_1 rfl (lv_at hl 0 rfl) ?_
  refine lv_ineg hx hb dX3_lowest_2 ?_
  refine lv_iand hx hb dX3_lowest_3 ?_
  exact ret 4 _ _ _ (x &&& (-x)) () dX3_lowest_4 (rfl) hP hD hS
set_option maxHeartbeats 4000000 in
set_option maxRecDepth 100000 in
theorem m_forget (l : Launch) (G : gG) (sz : Nat) (b : Nat → Nat) (gc gd gw gf gp ga gb gh gg gx ge : Nat → Int32) (n k z t : Nat) (kn : Int32) (pl lf pn : Nat)  (hn : n ≤ 60) (hk : k ≤ 8) (hz : z ≤ 20) (ht : t ≤ 100000) (hpl : pl ≤ 60) (hlf : lf ≤ 6) (hpn : pn ≤ 1560) (hga : ∀ j, j < 64 → ga j = st_K j) (hgb : ∀ j, j < 8 → gb j = st_S j)  : MetV l yX3_forget wsX3_forget ({ frames := 0, cells := 0, slots := 0, locals := 0 } : Room) [.ref (b 0)] G (wMd G b gc gd gw gf gp ga gb gh gg gx ge n k z t kn pl lf pn) sz (fun _ : Unit => wMd G b gc gd gw gf gp ga gb gh gg gx ge n k z 0 (-1) pl lf pn) (fun _ => True) := by
  refine ent_v _ cX3_forget 1 RX3 (by decide) rfl rfl (Nat.le_of_ble_eq_true rfl) ?_
  intro p e s m args below meth c A Q ls hx hb hml hts hown hA hK hX ret hl hP hD hS
  have hl : lv_has ls 1 [(0, .ref (b 0))] := hl
  have lk19 := hts (.fieldLink RX3 19 "MinedLedgerModel" "kept" "I") (by decide +kernel)
  have lk153 := hts (.fieldLink RX3 153 "MinedLedgerModel" "tried" "I") (by decide +kernel)
  have hiX3 : ∀ w ∈ wsX30, w ∈ wsX3_forget := by decide +kernel
  refine lv_aload_n hx hb dX3_forget_0 rfl (lv_at hl 0 rfl) ?_
  refine lv_iconst (v := nI 0) hx hb dX3_forget_1 (by decide) ?_
  refine va_put (D := G.1) (ci := 3) (v := .int (nI 0)) (ty := .int) (C := RX3) (T := TX3) (N := 19) hx hb hts hiX3 tyX3 tyX3_ok nmX3 hown hK hP hD hS 0 rfl rfl 6 (by decide) lk153 (fun _ h9 => h9) rfl (by decide +kernel) rfl rfl (Nat.le_of_ble_eq_true rfl) dX3_forget_2 (fun H locs hP hD hS => ?_)
  have hP : va_P G.1 vwCl (wMd G b gc gd gw gf gp ga gb gh gg gx ge n k z 0 kn pl lf pn) H := hP
  have hD : va_D A (wMd G b gc gd gw gf gp ga gb gh gg gx ge n k z 0 kn pl lf pn) := hD
  refine lv_aload_n hx hb dX3_forget_5 rfl (lv_at hl 0 rfl) ?_
  refine lv_iconst (v := (-1)) hx hb dX3_forget_6 (by decide) ?_
  refine va_put (D := G.1) (ci := 3) (v := .int (-1)) (ty := .int) (C := RX3) (T := TX3) (N := 19) hx hb hts hiX3 tyX3 tyX3_ok nmX3 hown hK hP hD hS 0 rfl rfl 7 (by decide) lk19 (fun _ h9 => h9) rfl (by decide +kernel) rfl rfl (Nat.le_of_ble_eq_true rfl) dX3_forget_7 (fun H locs hP hD hS => ?_)
  have hP : va_P G.1 vwCl (wMd G b gc gd gw gf gp ga gb gh gg gx ge n k z 0 (-1) pl lf pn) H := hP
  have hD : va_D A (wMd G b gc gd gw gf gp ga gb gh gg gx ge n k z 0 (-1) pl lf pn) := hD
  exact ret 10 _ _ _ () dX3_forget_10 (trivial) hP hD hS
set_option maxHeartbeats 4000000 in
set_option maxRecDepth 100000 in
theorem m_hashCell (l : Launch) (G : gG) (sz : Nat) (b : Nat → Nat) (gc gd gw gf gp ga gb gh gg gx ge : Nat → Int32) (n k z t : Nat) (kn : Int32) (pl lf pn : Nat) (y i : Nat) (hn : n ≤ 60) (hk : k ≤ 8) (hz : z ≤ 20) (ht : t ≤ 100000) (hpl : pl ≤ 60) (hlf : lf ≤ 6) (hpn : pn ≤ 1560) (hga : ∀ j, j < 64 → ga j = st_K j) (hgb : ∀ j, j < 8 → gb j = st_S j) (hy : y < 60) (hi : i < 8) : MetI l yX3_hashCell wsX3_hashCell ({ frames := 0, cells := 0, slots := 0, locals := 0 } : Room) [.ref (b 0), .int (nI y), .int (nI i)] G (wMd G b gc gd gw gf gp ga gb gh gg gx ge n k z t kn pl lf pn) sz (fun _ : Unit => wMd G b gc gd gw gf gp ga gb gh gg gx ge n k z t kn pl lf pn) (fun r _ => r = gc (34 * y + 26 + i)) := by
  refine ent_i _ cX3_hashCell 3 RX3 (by decide) rfl rfl (Nat.le_of_ble_eq_true rfl) ?_
  intro p e s m args below meth c A Q ls hx hb hml hts hown hA hK hX ret hl hP hD hS
  have hl : lv_has ls 3 [(0, .ref (b 0)), (1, .int (nI y)), (2, .int (nI i))] := hl
  have lk7 := hts (.fieldLink RX3 7 "MinedLedgerModel" "cells" "[I") (by decide +kernel)
  have hiX3 : ∀ w ∈ wsX30, w ∈ wsX3_hashCell := by decide +kernel
  refine lv_aload_n hx hb dX3_hashCell_0 rfl (lv_at hl 0 rfl) ?_
  refine va_get (D := G.1) (ci := 3) (v := .ref (b 1)) (C := RX3) (T := TX3) (N := 19) hx hb hts hiX3 hown hK hP 0 rfl rfl 0 (by decide) lk7 (fun _ h9 => h9) rfl dX3_hashCell_1 ?_
  refine lv_bipush (v := nI 34) hx hb dX3_hashCell_4 (by decide) ?_
  refine lv_iload_n hx hb dX3_hashCell_6 rfl (lv_at hl 1 rfl) ?_
  refine mu_N hx hb 34 y dX3_hashCell_7 ?_
  refine lv_bipush (v := nI 26) hx hb dX3_hashCell_8 (by decide) ?_
  refine ad_N hx hb (34 * y) 26 dX3_hashCell_10 ?_
  refine lv_iload_n hx hb dX3_hashCell_11 rfl (lv_at hl 2 rfl) ?_
  refine ad_N hx hb ((34 * y) + 26) i dX3_hashCell_12 ?_
  refine rd_i hx hb hK hP 1 rfl (((34 * y) + 26) + i) (by omega) (by omega) dX3_hashCell_13 ?_
  exact ret 14 _ _ _ (gc (((34 * y) + 26) + i)) () dX3_hashCell_14 (rfl) hP hD hS
def r_put (gw : Nat → Int32) (k t : Nat) (kn x r : Int32) (gw' : Nat → Int32) (k' t' : Nat) (kn' : Int32) : Prop :=
  (k = 8 ∧ r = (-3) ∧ gw' = gw ∧ k' = k ∧ t' = t ∧ kn' = kn) ∨ (k ≠ 8 ∧ r = nI (k + 1) ∧ gw' = upd gw k x ∧ k' = k + 1 ∧ t' = 0 ∧ kn' = (-1))
def r_takeBack (k t : Nat) (kn x r : Int32) (k' t' : Nat) (kn' : Int32) : Prop :=
  ((x.toInt < 1 ∨ (k : Int) < x.toInt) ∧ r = (-2) ∧ k' = k ∧ t' = t ∧ kn' = kn) ∨ (∃ j : Nat, 1 ≤ j ∧ j ≤ k ∧ x = nI j ∧ r = nI (k - j) ∧ k' = k - j ∧ t' = 0 ∧ kn' = (-1))
def r_spoil (fc : Nat → Int32) (n t : Nat) (kn x y w r : Int32) (fc' : Nat → Int32) (t' : Nat) (kn' : Int32) : Prop :=
  ((p_ok x n && p_ok y 34) = false ∧ r = nI 0 ∧ fc' = fc ∧ t' = t ∧ kn' = kn) ∨ (∃ i j : Nat, i < n ∧ j < 34 ∧ x = nI i ∧ y = nI j ∧ r = fc (34 * i + j) ∧ fc' = upd fc (34 * i + j) w ∧ t' = 0 ∧ kn' = (-1))
set_option maxHeartbeats 4000000 in
set_option maxRecDepth 100000 in
theorem m_put (l : Launch) (G : gG) (sz : Nat) (b : Nat → Nat) (gc gd gw gf gp ga gb gh gg gx ge : Nat → Int32) (n k z t : Nat) (kn : Int32) (pl lf pn : Nat) (x : Int32) (hn : n ≤ 60) (hk : k ≤ 8) (hz : z ≤ 20) (ht : t ≤ 100000) (hpl : pl ≤ 60) (hlf : lf ≤ 6) (hpn : pn ≤ 1560) (hga : ∀ j, j < 64 → ga j = st_K j) (hgb : ∀ j, j < 8 → gb j = st_S j)  : MetI l yX3_put wsX3_put ({ frames := 1, cells := 0, slots := 0, locals := 20 } : Room) [.ref (b 0), .int x] G (wMd G b gc gd gw gf gp ga gb gh gg gx ge n k z t kn pl lf pn) sz (fun u : (Nat → Int32) × Nat × Nat × Int32 => wMd G b gc gd u.1 gf gp ga gb gh gg gx ge n u.2.1 z u.2.2.1 u.2.2.2 pl lf pn) (fun r u => r_put gw k t kn x r u.1 u.2.1 u.2.2.1 u.2.2.2) := by
  refine ent_i _ cX3_put 2 RX3 (by decide) rfl rfl (Nat.le_of_ble_eq_true rfl) ?_
  intro p e s m args below meth c A Q ls hx hb hml hts hown hA hK hX ret hl hP hD hS
  have hl : lv_has ls 2 [(0, .ref (b 0)), (1, .int x)] := hl
  have lk16 := hts (.fieldLink RX3 16 "MinedLedgerModel" "words" "[I") (by decide +kernel)
  have lk150 := hts (.fieldLink RX3 150 "MinedLedgerModel" "wordCount" "I") (by decide +kernel)
  have hiX3 : ∀ w ∈ wsX30, w ∈ wsX3_put := by decide +kernel
  refine lv_aload_n hx hb dX3_put_0 rfl (lv_at hl 0 rfl) ?_
  refine va_get (D := G.1) (ci := 3) (v := .int (nI k)) (C := RX3) (T := TX3) (N := 19) hx hb hts hiX3 hown hK hP 0 rfl rfl 4 (by decide) lk150 (fun _ h9 => h9) rfl dX3_put_1 ?_
  refine lv_bipush (v := nI 8) hx hb dX3_put_4 (by decide) ?_
  refine cmp_ne hx hb k 8 12 (by omega) (by omega) dX3_put_6 (by decide) (fun c6 => ?_) (fun c6 => ?_)
  · refine lv_aload_n hx hb dX3_put_12 rfl (lv_at hl 0 rfl) ?_
    refine va_get (D := G.1) (ci := 3) (v := .ref (b 3)) (C := RX3) (T := TX3) (N := 19) hx hb hts hiX3 hown hK hP 0 rfl rfl 3 (by decide) lk16 (fun _ h9 => h9) rfl dX3_put_13 ?_
    refine lv_aload_n hx hb dX3_put_16 rfl (lv_at hl 0 rfl) ?_
    refine va_get (D := G.1) (ci := 3) (v := .int (nI k)) (C := RX3) (T := TX3) (N := 19) hx hb hts hiX3 hown hK hP 0 rfl rfl 4 (by decide) lk150 (fun _ h9 => h9) rfl dX3_put_17 ?_
    refine lv_iload_n hx hb dX3_put_20 rfl (lv_at hl 1 rfl) ?_
    refine wr_i hx hb hK hP hD hS 3 rfl k (by omega) (by omega) dX3_put_21 (fun H locs hP hD hS => ?_)
    have hP : va_P G.1 vwCl (wMd G b gc gd (upd gw k x) gf gp ga gb gh gg gx ge n k z t kn pl lf pn) H := hP
    have hD : va_D A (wMd G b gc gd (upd gw k x) gf gp ga gb gh gg gx ge n k z t kn pl lf pn) := hD
    refine lv_aload_n hx hb dX3_put_22 rfl (lv_at hl 0 rfl) ?_
    refine lv_dup hx hb dX3_put_23 rfl ?_
    refine va_get (D := G.1) (ci := 3) (v := .int (nI k)) (C := RX3) (T := TX3) (N := 19) hx hb hts hiX3 hown hK hP 0 rfl rfl 4 (by decide) lk150 (fun _ h9 => h9) rfl dX3_put_24 ?_
    refine lv_iconst (v := nI 1) hx hb dX3_put_27 (by decide) ?_
    refine ad_N hx hb k 1 dX3_put_28 ?_
    refine va_put (D := G.1) (ci := 3) (v := .int (nI (k + 1))) (ty := .int) (C := RX3) (T := TX3) (N := 19) hx hb hts hiX3 tyX3 tyX3_ok nmX3 hown hK hP hD hS 0 rfl rfl 4 (by decide) lk150 (fun _ h9 => h9) rfl (by decide +kernel) rfl rfl (Nat.le_of_ble_eq_true rfl) dX3_put_29 (fun H locs hP hD hS => ?_)
    have hP : va_P G.1 vwCl (wMd G b gc gd (upd gw k x) gf gp ga gb gh gg gx ge n (k + 1) z t kn pl lf pn) H := hP
    have hD : va_D A (wMd G b gc gd (upd gw k x) gf gp ga gb gh gg gx ge n (k + 1) z t kn pl lf pn) := hD
    refine lv_aload_n hx hb dX3_put_32 rfl (lv_at hl 0 rfl) ?_
    refine call_Vv (wr := ([] : va_W)) [] [] ⟨hx, hb, hml, hown, hts⟩ hK hX hA hP hD hS (m_forget l G _ b gc gd (upd gw k x) gf gp ga gb gh gg gx ge n (k + 1) z t kn pl lf pn  (by omega) (by omega) (by omega) (by omega) (by omega) (by omega) (by omega) hga hgb) (cwV 0 hts gX3_put_X3_forget rfl rfl rfl (by decide +kernel) ⟨Nat.le_of_ble_eq_true rfl, Nat.le_of_ble_eq_true rfl⟩) 3 0 rfl rfl rfl [0, 1, 2, 3, 4, 5, 6, 7, 8, 9, 10, 11] [] rfl rfl (by decide) (by decide) (by decide) rfl hl.1 (Nat.le_of_ble_eq_true rfl) dX3_put_33 ⟨Nat.zero_le _, Nat.zero_le _⟩ (fun u H locs hw hP hD hS => ?_)
    have hP : va_P G.1 vwCl (wMd G b gc gd (upd gw k x) gf gp ga gb gh gg gx ge n (k + 1) z 0 (-1) pl lf pn) H := hP
    have hD : va_D A (wMd G b gc gd (upd gw k x) gf gp ga gb gh gg gx ge n (k + 1) z 0 (-1) pl lf pn) := hD
    refine lv_aload_n hx hb dX3_put_36 rfl (lv_at hl 0 rfl) ?_
    refine va_get (D := G.1) (ci := 3) (v := .int (nI (k + 1))) (C := RX3) (T := TX3) (N := 19) hx hb hts hiX3 hown hK hP 0 rfl rfl 4 (by decide) lk150 (fun _ h9 => h9) rfl dX3_put_37 ?_
    exact ret 40 _ _ _ (nI (k + 1)) (upd gw k x, k + 1, 0, (-1)) dX3_put_40 (Or.inr ⟨c6, rfl, rfl, rfl, rfl, rfl⟩) hP hD hS
  · refine lv_bipush (v := (-3)) hx hb dX3_put_9 (by decide) ?_
    exact ret 11 _ _ _ (-3) (gw, k, t, kn) dX3_put_11 (Or.inl ⟨c6, rfl, rfl, rfl, rfl, rfl⟩) hP hD hS
set_option maxHeartbeats 4000000 in
set_option maxRecDepth 100000 in
theorem m_takeBack (l : Launch) (G : gG) (sz : Nat) (b : Nat → Nat) (gc gd gw gf gp ga gb gh gg gx ge : Nat → Int32) (n k z t : Nat) (kn : Int32) (pl lf pn : Nat) (x : Int32) (hn : n ≤ 60) (hk : k ≤ 8) (hz : z ≤ 20) (ht : t ≤ 100000) (hpl : pl ≤ 60) (hlf : lf ≤ 6) (hpn : pn ≤ 1560) (hga : ∀ j, j < 64 → ga j = st_K j) (hgb : ∀ j, j < 8 → gb j = st_S j)  : MetI l yX3_takeBack wsX3_takeBack ({ frames := 1, cells := 0, slots := 0, locals := 20 } : Room) [.ref (b 0), .int x] G (wMd G b gc gd gw gf gp ga gb gh gg gx ge n k z t kn pl lf pn) sz (fun u : Nat × Nat × Int32 => wMd G b gc gd gw gf gp ga gb gh gg gx ge n u.1 z u.2.1 u.2.2 pl lf pn) (fun r u => r_takeBack k t kn x r u.1 u.2.1 u.2.2) := by
  refine ent_i _ cX3_takeBack 2 RX3 (by decide) rfl rfl (Nat.le_of_ble_eq_true rfl) ?_
  intro p e s m args below meth c A Q ls hx hb hml hts hown hA hK hX ret hl hP hD hS
  have hl : lv_has ls 2 [(0, .ref (b 0)), (1, .int x)] := hl
  have lk150 := hts (.fieldLink RX3 150 "MinedLedgerModel" "wordCount" "I") (by decide +kernel)
  have hiX3 : ∀ w ∈ wsX30, w ∈ wsX3_takeBack := by decide +kernel
  refine lv_iload_n hx hb dX3_takeBack_0 rfl (lv_at hl 1 rfl) ?_
  refine lv_iconst (v := nI 1) hx hb dX3_takeBack_1 (by decide) ?_
  refine cmz_ltzn hx hb x 1 13 (by omega) dX3_takeBack_2 (by decide) (fun c2 => ?_) (fun c2 => ?_)
  · refine lv_bipush (v := (-2)) hx hb dX3_takeBack_13 (by decide) ?_
    exact ret 15 _ _ _ (-2) (k, t, kn) dX3_takeBack_15 (Or.inl ⟨Or.inl c2, rfl, rfl, rfl, rfl⟩) hP hD hS
  · refine lv_iload_n hx hb dX3_takeBack_5 rfl (lv_at hl 1 rfl) ?_
    refine lv_aload_n hx hb dX3_takeBack_6 rfl (lv_at hl 0 rfl) ?_
    refine va_get (D := G.1) (ci := 3) (v := .int (nI k)) (C := RX3) (T := TX3) (N := 19) hx hb hts hiX3 hown hK hP 0 rfl rfl 4 (by decide) lk150 (fun _ h9 => h9) rfl dX3_takeBack_7 ?_
    refine cmz_lezn hx hb x k 16 (by omega) dX3_takeBack_10 (by decide) (fun c10 => ?_) (fun c10 => ?_)
    · obtain ⟨j, hj, rfl⟩ := of_nn (x := x) (by omega)
      rw [tI_N hj] at c2 c10
      refine lv_aload_n hx hb dX3_takeBack_16 rfl (lv_at hl 0 rfl) ?_
      refine lv_dup hx hb dX3_takeBack_17 rfl ?_
      refine va_get (D := G.1) (ci := 3) (v := .int (nI k)) (C := RX3) (T := TX3) (N := 19) hx hb hts hiX3 hown hK hP 0 rfl rfl 4 (by decide) lk150 (fun _ h9 => h9) rfl dX3_takeBack_18 ?_
      refine lv_iload_n hx hb dX3_takeBack_21 rfl (lv_at hl 1 rfl) ?_
      refine su_N hx hb k j (by omega) dX3_takeBack_22 ?_
      refine va_put (D := G.1) (ci := 3) (v := .int (nI (k - j))) (ty := .int) (C := RX3) (T := TX3) (N := 19) hx hb hts hiX3 tyX3 tyX3_ok nmX3 hown hK hP hD hS 0 rfl rfl 4 (by decide) lk150 (fun _ h9 => h9) rfl (by decide +kernel) rfl rfl (Nat.le_of_ble_eq_true rfl) dX3_takeBack_23 (fun H locs hP hD hS => ?_)
      have hP : va_P G.1 vwCl (wMd G b gc gd gw gf gp ga gb gh gg gx ge n (k - j) z t kn pl lf pn) H := hP
      have hD : va_D A (wMd G b gc gd gw gf gp ga gb gh gg gx ge n (k - j) z t kn pl lf pn) := hD
      refine lv_aload_n hx hb dX3_takeBack_26 rfl (lv_at hl 0 rfl) ?_
      refine call_Vv (wr := ([] : va_W)) [] [] ⟨hx, hb, hml, hown, hts⟩ hK hX hA hP hD hS (m_forget l G _ b gc gd gw gf gp ga gb gh gg gx ge n (k - j) z t kn pl lf pn  (by omega) (by omega) (by omega) (by omega) (by omega) (by omega) (by omega) hga hgb) (cwV 0 hts gX3_takeBack_X3_forget rfl rfl rfl (by decide +kernel) ⟨Nat.le_of_ble_eq_true rfl, Nat.le_of_ble_eq_true rfl⟩) 3 0 rfl rfl rfl [0, 1, 2, 3, 4, 5, 6, 7, 8, 9, 10, 11] [] rfl rfl (by decide) (by decide) (by decide) rfl hl.1 (Nat.le_of_ble_eq_true rfl) dX3_takeBack_27 ⟨Nat.zero_le _, Nat.zero_le _⟩ (fun u H locs hw hP hD hS => ?_)
      have hP : va_P G.1 vwCl (wMd G b gc gd gw gf gp ga gb gh gg gx ge n (k - j) z 0 (-1) pl lf pn) H := hP
      have hD : va_D A (wMd G b gc gd gw gf gp ga gb gh gg gx ge n (k - j) z 0 (-1) pl lf pn) := hD
      refine lv_aload_n hx hb dX3_takeBack_30 rfl (lv_at hl 0 rfl) ?_
      refine va_get (D := G.1) (ci := 3) (v := .int (nI (k - j))) (C := RX3) (T := TX3) (N := 19) hx hb hts hiX3 hown hK hP 0 rfl rfl 4 (by decide) lk150 (fun _ h9 => h9) rfl dX3_takeBack_31 ?_
      exact ret 34 _ _ _ (nI (k - j)) (k - j, 0, (-1)) dX3_takeBack_34 (Or.inr ⟨j, by omega, by omega, rfl, rfl, rfl, rfl, rfl⟩) hP hD hS
    · refine lv_bipush (v := (-2)) hx hb dX3_takeBack_13 (by decide) ?_
      exact ret 15 _ _ _ (-2) (k, t, kn) dX3_takeBack_15 (Or.inl ⟨Or.inr c10, rfl, rfl, rfl, rfl⟩) hP hD hS
set_option maxHeartbeats 4000000 in
set_option maxRecDepth 100000 in
theorem m_pending (l : Launch) (G : gG) (sz : Nat) (b : Nat → Nat) (gc gd gw gf gp ga gb gh gg gx ge : Nat → Int32) (n k z t : Nat) (kn : Int32) (pl lf pn : Nat) (x : Int32) (hn : n ≤ 60) (hk : k ≤ 8) (hz : z ≤ 20) (ht : t ≤ 100000) (hpl : pl ≤ 60) (hlf : lf ≤ 6) (hpn : pn ≤ 1560) (hga : ∀ j, j < 64 → ga j = st_K j) (hgb : ∀ j, j < 8 → gb j = st_S j)  : MetI l yX3_pending wsX3_pending ({ frames := 0, cells := 0, slots := 0, locals := 0 } : Room) [.ref (b 0), .int x] G (wMd G b gc gd gw gf gp ga gb gh gg gx ge n k z t kn pl lf pn) sz (fun _ : Unit => wMd G b gc gd gw gf gp ga gb gh gg gx ge n k z t kn pl lf pn) (fun r _ => r = if p_ok x k then gw (p_ix x) else nI 0) := by
  refine ent_i _ cX3_pending 2 RX3 (by decide) rfl rfl (Nat.le_of_ble_eq_true rfl) ?_
  intro p e s m args below meth c A Q ls hx hb hml hts hown hA hK hX ret hl hP hD hS
  have hl : lv_has ls 2 [(0, .ref (b 0)), (1, .int x)] := hl
  have lk16 := hts (.fieldLink RX3 16 "MinedLedgerModel" "words" "[I") (by decide +kernel)
  have lk150 := hts (.fieldLink RX3 150 "MinedLedgerModel" "wordCount" "I") (by decide +kernel)
  have hiX3 : ∀ w ∈ wsX30, w ∈ wsX3_pending := by decide +kernel
  refine lv_iload_n hx hb dX3_pending_0 rfl (lv_at hl 1 rfl) ?_
  refine ifz_lt hx hb x 21 dX3_pending_1 (by decide) (fun c1 => ?_) (fun c1 => ?_)
  · refine lv_iconst (v := nI 0) hx hb dX3_pending_21 (by decide) ?_
    exact ret 22 _ _ _ (nI 0) () dX3_pending_22 (by rw [ok_F (Or.inl c1)]; rfl) hP hD hS
  · refine lv_iload_n hx hb dX3_pending_4 rfl (lv_at hl 1 rfl) ?_
    refine lv_aload_n hx hb dX3_pending_5 rfl (lv_at hl 0 rfl) ?_
    refine va_get (D := G.1) (ci := 3) (v := .int (nI k)) (C := RX3) (T := TX3) (N := 19) hx hb hts hiX3 hown hK hP 0 rfl rfl 4 (by decide) lk150 (fun _ h9 => h9) rfl dX3_pending_6 ?_
    refine cmz_gezn hx hb x k 21 (by omega) dX3_pending_9 (by decide) (fun c9 => ?_) (fun c9 => ?_)
    · refine lv_iconst (v := nI 0) hx hb dX3_pending_21 (by decide) ?_
      exact ret 22 _ _ _ (nI 0) () dX3_pending_22 (by rw [ok_F (Or.inr c9)]; rfl) hP hD hS
    · obtain ⟨j, hj, rfl⟩ := in_N (by omega) c1 c9
      refine lv_aload_n hx hb dX3_pending_12 rfl (lv_at hl 0 rfl) ?_
      refine va_get (D := G.1) (ci := 3) (v := .ref (b 3)) (C := RX3) (T := TX3) (N := 19) hx hb hts hiX3 hown hK hP 0 rfl rfl 3 (by decide) lk16 (fun _ h9 => h9) rfl dX3_pending_13 ?_
      refine lv_iload_n hx hb dX3_pending_16 rfl (lv_at hl 1 rfl) ?_
      refine rd_i hx hb hK hP 3 rfl j (by omega) (by omega) dX3_pending_17 ?_
      refine lv_goto (tgt := 22) hx hb dX3_pending_18 (by decide) ?_
      exact ret 22 _ _ _ (gw j) () dX3_pending_22 (by rw [ok_N (by omega), decide_eq_true hj, if_pos rfl, ix_N hj (by omega)]) hP hD hS
set_option maxHeartbeats 4000000 in
set_option maxRecDepth 100000 in
theorem m_difficulty (l : Launch) (G : gG) (sz : Nat) (b : Nat → Nat) (gc gd gw gf gp ga gb gh gg gx ge : Nat → Int32) (n k z t : Nat) (kn : Int32) (pl lf pn : Nat) (x : Int32) (hn : n ≤ 60) (hk : k ≤ 8) (hz : z ≤ 20) (ht : t ≤ 100000) (hpl : pl ≤ 60) (hlf : lf ≤ 6) (hpn : pn ≤ 1560) (hga : ∀ j, j < 64 → ga j = st_K j) (hgb : ∀ j, j < 8 → gb j = st_S j)  : MetI l yX3_difficulty wsX3_difficulty ({ frames := 1, cells := 0, slots := 0, locals := 20 } : Room) [.ref (b 0), .int x] G (wMd G b gc gd gw gf gp ga gb gh gg gx ge n k z t kn pl lf pn) sz (fun u : Nat × Nat × Int32 => wMd G b gc gd gw gf gp ga gb gh gg gx ge n k u.1 u.2.1 u.2.2 pl lf pn) (fun r u => q_difficulty z t kn x r u.1 u.2.1 u.2.2) := by
  refine ent_i _ cX3_difficulty 3 RX3 (by decide) rfl rfl (Nat.le_of_ble_eq_true rfl) ?_
  intro p e s m args below meth c A Q ls hx hb hml hts hown hA hK hX ret hl hP hD hS
  have hl : lv_has ls 3 [(0, .ref (b 0)), (1, .int x)] := hl
  have lk48 := hts (.fieldLink RX3 48 "MinedLedgerModel" "difficulty" "I") (by decide +kernel)
  have hiX3 : ∀ w ∈ wsX30, w ∈ wsX3_difficulty := by decide +kernel
  refine lv_iload_n hx hb dX3_difficulty_0 rfl (lv_at hl 1 rfl) ?_
  refine ifz_lt hx hb x 10 dX3_difficulty_1 (by decide) (fun c1 => ?_) (fun c1 => ?_)
  · refine lv_bipush (v := (-2)) hx hb dX3_difficulty_10 (by decide) ?_
    exact ret 12 _ _ _ (-2) (z, t, kn) dX3_difficulty_12 (Or.inl ⟨Or.inl c1, rfl, rfl, rfl, rfl⟩) hP hD hS
  · refine lv_iload_n hx hb dX3_difficulty_4 rfl (lv_at hl 1 rfl) ?_
    refine lv_bipush (v := nI 20) hx hb dX3_difficulty_5 (by decide) ?_
    refine cmz_lezn hx hb x 20 13 (by omega) dX3_difficulty_7 (by decide) (fun c7 => ?_) (fun c7 => ?_)
    · obtain ⟨j, hj, rfl⟩ := of_nn (x := x) c1
      rw [tI_N hj] at c1 c7
      refine lv_aload_n hx hb dX3_difficulty_13 rfl (lv_at hl 0 rfl) ?_
      refine va_get (D := G.1) (ci := 3) (v := .int (nI z)) (C := RX3) (T := TX3) (N := 19) hx hb hts hiX3 hown hK hP 0 rfl rfl 5 (by decide) lk48 (fun _ h9 => h9) rfl dX3_difficulty_14 ?_
      refine lv_istore_n (lv' := [(2, .int (nI z)), (0, .ref (b 0)), (1, .int (nI j))]) hx hb dX3_difficulty_17 rfl hl (by decide) rfl (fun ls hl => ?_)
      refine lv_aload_n hx hb dX3_difficulty_18 rfl (lv_at hl 1 rfl) ?_
      refine lv_iload_n hx hb dX3_difficulty_19 rfl (lv_at hl 2 rfl) ?_
      refine va_put (D := G.1) (ci := 3) (v := .int (nI j)) (ty := .int) (C := RX3) (T := TX3) (N := 19) hx hb hts hiX3 tyX3 tyX3_ok nmX3 hown hK hP hD hS 0 rfl rfl 5 (by decide) lk48 (fun _ h9 => h9) rfl (by decide +kernel) rfl rfl (Nat.le_of_ble_eq_true rfl) dX3_difficulty_20 (fun H locs hP hD hS => ?_)
      have hP : va_P G.1 vwCl (wMd G b gc gd gw gf gp ga gb gh gg gx ge n k j t kn pl lf pn) H := hP
      have hD : va_D A (wMd G b gc gd gw gf gp ga gb gh gg gx ge n k j t kn pl lf pn) := hD
      refine lv_aload_n hx hb dX3_difficulty_23 rfl (lv_at hl 1 rfl) ?_
      refine call_Vv (wr := ([] : va_W)) [] [] ⟨hx, hb, hml, hown, hts⟩ hK hX hA hP hD hS (m_forget l G _ b gc gd gw gf gp ga gb gh gg gx ge n k j t kn pl lf pn  (by omega) (by omega) (by omega) (by omega) (by omega) (by omega) (by omega) hga hgb) (cwV 0 hts gX3_difficulty_X3_forget rfl rfl rfl (by decide +kernel) ⟨Nat.le_of_ble_eq_true rfl, Nat.le_of_ble_eq_true rfl⟩) 3 0 rfl rfl rfl [0, 1, 2, 3, 4, 5, 6, 7, 8, 9, 10, 11] [] rfl rfl (by decide) (by decide) (by decide) rfl hl.1 (Nat.le_of_ble_eq_true rfl) dX3_difficulty_24 ⟨Nat.zero_le _, Nat.zero_le _⟩ (fun u H locs hw hP hD hS => ?_)
      have hP : va_P G.1 vwCl (wMd G b gc gd gw gf gp ga gb gh gg gx ge n k j 0 (-1) pl lf pn) H := hP
      have hD : va_D A (wMd G b gc gd gw gf gp ga gb gh gg gx ge n k j 0 (-1) pl lf pn) := hD
      refine lv_iload_n hx hb dX3_difficulty_27 rfl (lv_at hl 0 rfl) ?_
      exact ret 28 _ _ _ (nI z) (j, 0, (-1)) dX3_difficulty_28 (Or.inr ⟨j, by omega, rfl, rfl, rfl, rfl, rfl⟩) hP hD hS
    · refine lv_bipush (v := (-2)) hx hb dX3_difficulty_10 (by decide) ?_
      exact ret 12 _ _ _ (-2) (z, t, kn) dX3_difficulty_12 (Or.inl ⟨Or.inr c7, rfl, rfl, rfl, rfl⟩) hP hD hS
set_option maxHeartbeats 4000000 in
set_option maxRecDepth 100000 in
theorem m_tried (l : Launch) (G : gG) (sz : Nat) (b : Nat → Nat) (gc gd gw gf gp ga gb gh gg gx ge : Nat → Int32) (n k z t : Nat) (kn : Int32) (pl lf pn : Nat)  (hn : n ≤ 60) (hk : k ≤ 8) (hz : z ≤ 20) (ht : t ≤ 100000) (hpl : pl ≤ 60) (hlf : lf ≤ 6) (hpn : pn ≤ 1560) (hga : ∀ j, j < 64 → ga j = st_K j) (hgb : ∀ j, j < 8 → gb j = st_S j)  : MetI l yX3_tried wsX3_tried ({ frames := 0, cells := 0, slots := 0, locals := 0 } : Room) [.ref (b 0)] G (wMd G b gc gd gw gf gp ga gb gh gg gx ge n k z t kn pl lf pn) sz (fun _ : Unit => wMd G b gc gd gw gf gp ga gb gh gg gx ge n k z t kn pl lf pn) (fun r _ => r = nI t) := by
  refine ent_i _ cX3_tried 1 RX3 (by decide) rfl rfl (Nat.le_of_ble_eq_true rfl) ?_
  intro p e s m args below meth c A Q ls hx hb hml hts hown hA hK hX ret hl hP hD hS
  have hl : lv_has ls 1 [(0, .ref (b 0))] := hl
  have lk153 := hts (.fieldLink RX3 153 "MinedLedgerModel" "tried" "I") (by decide +kernel)
  have hiX3 : ∀ w ∈ wsX30, w ∈ wsX3_tried := by decide +kernel
  refine lv_aload_n hx hb dX3_tried_0 rfl (lv_at hl 0 rfl) ?_
  refine va_get (D := G.1) (ci := 3) (v := .int (nI t)) (C := RX3) (T := TX3) (N := 19) hx hb hts hiX3 hown hK hP 0 rfl rfl 6 (by decide) lk153 (fun _ h9 => h9) rfl dX3_tried_1 ?_
  exact ret 4 _ _ _ (nI t) () dX3_tried_4 (rfl) hP hD hS
set_option maxHeartbeats 4000000 in
set_option maxRecDepth 100000 in
theorem m_count (l : Launch) (G : gG) (sz : Nat) (b : Nat → Nat) (gc gd gw gf gp ga gb gh gg gx ge : Nat → Int32) (n k z t : Nat) (kn : Int32) (pl lf pn : Nat)  (hn : n ≤ 60) (hk : k ≤ 8) (hz : z ≤ 20) (ht : t ≤ 100000) (hpl : pl ≤ 60) (hlf : lf ≤ 6) (hpn : pn ≤ 1560) (hga : ∀ j, j < 64 → ga j = st_K j) (hgb : ∀ j, j < 8 → gb j = st_S j)  : MetI l yX3_count wsX3_count ({ frames := 0, cells := 0, slots := 0, locals := 0 } : Room) [.ref (b 0)] G (wMd G b gc gd gw gf gp ga gb gh gg gx ge n k z t kn pl lf pn) sz (fun _ : Unit => wMd G b gc gd gw gf gp ga gb gh gg gx ge n k z t kn pl lf pn) (fun r _ => r = nI n) := by
  refine ent_i _ cX3_count 1 RX3 (by decide) rfl rfl (Nat.le_of_ble_eq_true rfl) ?_
  intro p e s m args below meth c A Q ls hx hb hml hts hown hA hK hX ret hl hP hD hS
  have hl : lv_has ls 1 [(0, .ref (b 0))] := hl
  have lk141 := hts (.fieldLink RX3 141 "MinedLedgerModel" "count" "I") (by decide +kernel)
  have hiX3 : ∀ w ∈ wsX30, w ∈ wsX3_count := by decide +kernel
  refine lv_aload_n hx hb dX3_count_0 rfl (lv_at hl 0 rfl) ?_
  refine va_get (D := G.1) (ci := 3) (v := .int (nI n)) (C := RX3) (T := TX3) (N := 19) hx hb hts hiX3 hown hK hP 0 rfl rfl 1 (by decide) lk141 (fun _ h9 => h9) rfl dX3_count_1 ?_
  exact ret 4 _ _ _ (nI n) () dX3_count_4 (rfl) hP hD hS
set_option maxHeartbeats 4000000 in
set_option maxRecDepth 100000 in
theorem m_fault (l : Launch) (G : gG) (sz : Nat) (b : Nat → Nat) (gc gd gw gf gp ga gb gh gg gx ge : Nat → Int32) (n k z t : Nat) (kn : Int32) (pl lf pn : Nat)  (hn : n ≤ 60) (hk : k ≤ 8) (hz : z ≤ 20) (ht : t ≤ 100000) (hpl : pl ≤ 60) (hlf : lf ≤ 6) (hpn : pn ≤ 1560) (hga : ∀ j, j < 64 → ga j = st_K j) (hgb : ∀ j, j < 8 → gb j = st_S j)  : MetI l yX3_fault wsX3_fault ({ frames := 0, cells := 0, slots := 0, locals := 0 } : Room) [.ref (b 0)] G (wMd G b gc gd gw gf gp ga gb gh gg gx ge n k z t kn pl lf pn) sz (fun _ : Unit => wMd G b gc gd gw gf gp ga gb gh gg gx ge n k z t kn pl lf pn) (fun r _ => r = nI lf) := by
  refine ent_i _ cX3_fault 1 RX3 (by decide) rfl rfl (Nat.le_of_ble_eq_true rfl) ?_
  intro p e s m args below meth c A Q ls hx hb hml hts hown hA hK hX ret hl hP hD hS
  have hl : lv_has ls 1 [(0, .ref (b 0))] := hl
  have lk203 := hts (.fieldLink RX3 203 "MinedLedgerModel" "fault" "I") (by decide +kernel)
  have hiX3 : ∀ w ∈ wsX30, w ∈ wsX3_fault := by decide +kernel
  refine lv_aload_n hx hb dX3_fault_0 rfl (lv_at hl 0 rfl) ?_
  refine va_get (D := G.1) (ci := 3) (v := .int (nI lf)) (C := RX3) (T := TX3) (N := 19) hx hb hts hiX3 hown hK hP 0 rfl rfl 10 (by decide) lk203 (fun _ h9 => h9) rfl dX3_fault_1 ?_
  exact ret 4 _ _ _ (nI lf) () dX3_fault_4 (rfl) hP hD hS
set_option maxHeartbeats 4000000 in
set_option maxRecDepth 100000 in
theorem m_begin (l : Launch) (G : gG) (sz : Nat) (b : Nat → Nat) (gc gd gw gf gp ga gb gh gg gx ge : Nat → Int32) (n k z t : Nat) (kn : Int32) (pl lf pn : Nat)  (hn : n ≤ 60) (hk : k ≤ 8) (hz : z ≤ 20) (ht : t ≤ 100000) (hpl : pl ≤ 60) (hlf : lf ≤ 6) (hpn : pn ≤ 1560) (hga : ∀ j, j < 64 → ga j = st_K j) (hgb : ∀ j, j < 8 → gb j = st_S j)  : MetI l yX3_begin wsX3_begin ({ frames := 0, cells := 0, slots := 0, locals := 0 } : Room) [.ref (b 0)] G (wMd G b gc gd gw gf gp ga gb gh gg gx ge n k z t kn pl lf pn) sz (fun _ : Unit => wMd G b gc gd gw gf gp ga gb gh gg gx ge n k z t kn 0 lf pn) (fun r _ => r = nI pl) := by
  refine ent_i _ cX3_begin 2 RX3 (by decide) rfl rfl (Nat.le_of_ble_eq_true rfl) ?_
  intro p e s m args below meth c A Q ls hx hb hml hts hown hA hK hX ret hl hP hD hS
  have hl : lv_has ls 2 [(0, .ref (b 0))] := hl
  have lk181 := hts (.fieldLink RX3 181 "MinedLedgerModel" "place" "I") (by decide +kernel)
  have hiX3 : ∀ w ∈ wsX30, w ∈ wsX3_begin := by decide +kernel
  refine lv_aload_n hx hb dX3_begin_0 rfl (lv_at hl 0 rfl) ?_
  refine va_get (D := G.1) (ci := 3) (v := .int (nI pl)) (C := RX3) (T := TX3) (N := 19) hx hb hts hiX3 hown hK hP 0 rfl rfl 9 (by decide) lk181 (fun _ h9 => h9) rfl dX3_begin_1 ?_
  refine lv_istore_n (lv' := [(1, .int (nI pl)), (0, .ref (b 0))]) hx hb dX3_begin_4 rfl hl (by decide) rfl (fun ls hl => ?_)
  refine lv_aload_n hx hb dX3_begin_5 rfl (lv_at hl 1 rfl) ?_
  refine lv_iconst (v := nI 0) hx hb dX3_begin_6 (by decide) ?_
  refine va_put (D := G.1) (ci := 3) (v := .int (nI 0)) (ty := .int) (C := RX3) (T := TX3) (N := 19) hx hb hts hiX3 tyX3 tyX3_ok nmX3 hown hK hP hD hS 0 rfl rfl 9 (by decide) lk181 (fun _ h9 => h9) rfl (by decide +kernel) rfl rfl (Nat.le_of_ble_eq_true rfl) dX3_begin_7 (fun H locs hP hD hS => ?_)
  have hP : va_P G.1 vwCl (wMd G b gc gd gw gf gp ga gb gh gg gx ge n k z t kn 0 lf pn) H := hP
  have hD : va_D A (wMd G b gc gd gw gf gp ga gb gh gg gx ge n k z t kn 0 lf pn) := hD
  refine lv_iload_n hx hb dX3_begin_10 rfl (lv_at hl 0 rfl) ?_
  exact ret 11 _ _ _ (nI pl) () dX3_begin_11 (rfl) hP hD hS
set_option maxHeartbeats 4000000 in
set_option maxRecDepth 100000 in
theorem m_head (l : Launch) (G : gG) (sz : Nat) (b : Nat → Nat) (gc gd gw gf gp ga gb gh gg gx ge : Nat → Int32) (n k z t : Nat) (kn : Int32) (pl lf pn : Nat) (x : Int32) (hn : n ≤ 60) (hk : k ≤ 8) (hz : z ≤ 20) (ht : t ≤ 100000) (hpl : pl ≤ 60) (hlf : lf ≤ 6) (hpn : pn ≤ 1560) (hga : ∀ j, j < 64 → ga j = st_K j) (hgb : ∀ j, j < 8 → gb j = st_S j)  : MetI l yX3_head wsX3_head ({ frames := 0, cells := 0, slots := 0, locals := 0 } : Room) [.ref (b 0), .int x] G (wMd G b gc gd gw gf gp ga gb gh gg gx ge n k z t kn pl lf pn) sz (fun _ : Unit => wMd G b gc gd gw gf gp ga gb gh gg gx ge n k z t kn pl lf pn) (fun r _ => r = if p_ok x 8 then gd (p_ix x) else nI 0) := by
  refine ent_i _ cX3_head 2 RX3 (by decide) rfl rfl (Nat.le_of_ble_eq_true rfl) ?_
  intro p e s m args below meth c A Q ls hx hb hml hts hown hA hK hX ret hl hP hD hS
  have hl : lv_has ls 2 [(0, .ref (b 0)), (1, .int x)] := hl
  have lk13 := hts (.fieldLink RX3 13 "MinedLedgerModel" "head" "[I") (by decide +kernel)
  have hiX3 : ∀ w ∈ wsX30, w ∈ wsX3_head := by decide +kernel
  refine lv_iload_n hx hb dX3_head_0 rfl (lv_at hl 1 rfl) ?_
  refine ifz_lt hx hb x 19 dX3_head_1 (by decide) (fun c1 => ?_) (fun c1 => ?_)
  · refine lv_iconst (v := nI 0) hx hb dX3_head_19 (by decide) ?_
    exact ret 20 _ _ _ (nI 0) () dX3_head_20 (by rw [ok_F (n := 8) (Or.inl c1)]; rfl) hP hD hS
  · refine lv_iload_n hx hb dX3_head_4 rfl (lv_at hl 1 rfl) ?_
    refine lv_bipush (v := nI 8) hx hb dX3_head_5 (by decide) ?_
    refine cmz_gezn hx hb x 8 19 (by omega) dX3_head_7 (by decide) (fun c7 => ?_) (fun c7 => ?_)
    · refine lv_iconst (v := nI 0) hx hb dX3_head_19 (by decide) ?_
      exact ret 20 _ _ _ (nI 0) () dX3_head_20 (by rw [ok_F (n := 8) (Or.inr c7)]; rfl) hP hD hS
    · obtain ⟨j, hj, rfl⟩ := in_N (n := 8) (by omega) c1 c7
      refine lv_aload_n hx hb dX3_head_10 rfl (lv_at hl 0 rfl) ?_
      refine va_get (D := G.1) (ci := 3) (v := .ref (b 2)) (C := RX3) (T := TX3) (N := 19) hx hb hts hiX3 hown hK hP 0 rfl rfl 2 (by decide) lk13 (fun _ h9 => h9) rfl dX3_head_11 ?_
      refine lv_iload_n hx hb dX3_head_14 rfl (lv_at hl 1 rfl) ?_
      refine rd_i hx hb hK hP 2 rfl j (by omega) (by omega) dX3_head_15 ?_
      refine lv_goto (tgt := 20) hx hb dX3_head_16 (by decide) ?_
      exact ret 20 _ _ _ (gd j) () dX3_head_20 (by rw [ok_N (by omega), decide_eq_true hj, if_pos rfl, ix_N hj (by omega)]) hP hD hS
set_option maxHeartbeats 4000000 in
set_option maxRecDepth 100000 in
theorem m_isCell (l : Launch) (G : gG) (sz : Nat) (b : Nat → Nat) (gc gd gw gf gp ga gb gh gg gx ge : Nat → Int32) (n k z t : Nat) (kn : Int32) (pl lf pn : Nat) (x y : Int32) (hn : n ≤ 60) (hk : k ≤ 8) (hz : z ≤ 20) (ht : t ≤ 100000) (hpl : pl ≤ 60) (hlf : lf ≤ 6) (hpn : pn ≤ 1560) (hga : ∀ j, j < 64 → ga j = st_K j) (hgb : ∀ j, j < 8 → gb j = st_S j)  : MetI l yX3_isCell wsX3_isCell ({ frames := 0, cells := 0, slots := 0, locals := 0 } : Room) [.ref (b 0), .int x, .int y] G (wMd G b gc gd gw gf gp ga gb gh gg gx ge n k z t kn pl lf pn) sz (fun _ : Unit => wMd G b gc gd gw gf gp ga gb gh gg gx ge n k z t kn pl lf pn) (fun r _ => r = bI (p_ok x n && p_ok y 34)) := by
  refine ent_z _ cX3_isCell 3 RX3 (by decide) rfl rfl (Nat.le_of_ble_eq_true rfl) ?_
  intro p e s m args below meth c A Q ls hx hb hml hts hown hA hK hX ret hl hP hD hS
  have hl : lv_has ls 3 [(0, .ref (b 0)), (1, .int x), (2, .int y)] := hl
  have lk141 := hts (.fieldLink RX3 141 "MinedLedgerModel" "count" "I") (by decide +kernel)
  have hiX3 : ∀ w ∈ wsX30, w ∈ wsX3_isCell := by decide +kernel
  refine lv_iload_n hx hb dX3_isCell_0 rfl (lv_at hl 1 rfl) ?_
  refine ifz_lt hx hb x 26 dX3_isCell_1 (by decide) (fun c1 => ?_) (fun c1 => ?_)
  · refine lv_iconst (v := nI 0) hx hb dX3_isCell_26 (by decide) ?_
    exact ret 27 _ _ _ (nI 0) () dX3_isCell_27 (by first | exact Or.inl rfl | exact Or.inr rfl) (by rw [ok_F (Or.inl c1)]; rfl) hP hD hS
  · refine lv_iload_n hx hb dX3_isCell_4 rfl (lv_at hl 1 rfl) ?_
    refine lv_aload_n hx hb dX3_isCell_5 rfl (lv_at hl 0 rfl) ?_
    refine va_get (D := G.1) (ci := 3) (v := .int (nI n)) (C := RX3) (T := TX3) (N := 19) hx hb hts hiX3 hown hK hP 0 rfl rfl 1 (by decide) lk141 (fun _ h9 => h9) rfl dX3_isCell_6 ?_
    refine cmz_gezn hx hb x n 26 (by omega) dX3_isCell_9 (by decide) (fun c9 => ?_) (fun c9 => ?_)
    · refine lv_iconst (v := nI 0) hx hb dX3_isCell_26 (by decide) ?_
      exact ret 27 _ _ _ (nI 0) () dX3_isCell_27 (by first | exact Or.inl rfl | exact Or.inr rfl) (by rw [ok_F (Or.inr c9)]; rfl) hP hD hS
    · refine lv_iload_n hx hb dX3_isCell_12 rfl (lv_at hl 2 rfl) ?_
      refine ifz_lt hx hb y 26 dX3_isCell_13 (by decide) (fun c13 => ?_) (fun c13 => ?_)
      · refine lv_iconst (v := nI 0) hx hb dX3_isCell_26 (by decide) ?_
        exact ret 27 _ _ _ (nI 0) () dX3_isCell_27 (by first | exact Or.inl rfl | exact Or.inr rfl) (by rw [ok_F (n := 34) (Or.inl c13), Bool.and_false]; rfl) hP hD hS
      · refine lv_iload_n hx hb dX3_isCell_16 rfl (lv_at hl 2 rfl) ?_
        refine lv_bipush (v := nI 34) hx hb dX3_isCell_17 (by decide) ?_
        refine cmz_gezn hx hb y 34 26 (by omega) dX3_isCell_19 (by decide) (fun c19 => ?_) (fun c19 => ?_)
        · refine lv_iconst (v := nI 0) hx hb dX3_isCell_26 (by decide) ?_
          exact ret 27 _ _ _ (nI 0) () dX3_isCell_27 (by first | exact Or.inl rfl | exact Or.inr rfl) (by rw [ok_F (n := 34) (Or.inr c19), Bool.and_false]; rfl) hP hD hS
        · refine lv_iconst (v := nI 1) hx hb dX3_isCell_22 (by decide) ?_
          refine lv_goto (tgt := 27) hx hb dX3_isCell_23 (by decide) ?_
          exact ret 27 _ _ _ (nI 1) () dX3_isCell_27 (by first | exact Or.inl rfl | exact Or.inr rfl) (by rw [ok_T c1 c9, ok_T (n := 34) c13 c19]; rfl) hP hD hS
set_option maxHeartbeats 4000000 in
set_option maxRecDepth 100000 in
theorem m_cell (l : Launch) (G : gG) (sz : Nat) (b : Nat → Nat) (gc gd gw gf gp ga gb gh gg gx ge : Nat → Int32) (n k z t : Nat) (kn : Int32) (pl lf pn : Nat) (x y : Int32) (hn : n ≤ 60) (hk : k ≤ 8) (hz : z ≤ 20) (ht : t ≤ 100000) (hpl : pl ≤ 60) (hlf : lf ≤ 6) (hpn : pn ≤ 1560) (hga : ∀ j, j < 64 → ga j = st_K j) (hgb : ∀ j, j < 8 → gb j = st_S j)  : MetI l yX3_cell wsX3_cell ({ frames := 1, cells := 0, slots := 0, locals := 22 } : Room) [.ref (b 0), .int x, .int y] G (wMd G b gc gd gw gf gp ga gb gh gg gx ge n k z t kn pl lf pn) sz (fun _ : Unit => wMd G b gc gd gw gf gp ga gb gh gg gx ge n k z t kn pl lf pn) (fun r _ => r = if (p_ok x n && p_ok y 34) then gc (34 * p_ix x + p_ix y) else nI 0) := by
  refine ent_i _ cX3_cell 3 RX3 (by decide) rfl rfl (Nat.le_of_ble_eq_true rfl) ?_
  intro p e s m args below meth c A Q ls hx hb hml hts hown hA hK hX ret hl hP hD hS
  have hl : lv_has ls 3 [(0, .ref (b 0)), (1, .int x), (2, .int y)] := hl
  have lk7 := hts (.fieldLink RX3 7 "MinedLedgerModel" "cells" "[I") (by decide +kernel)
  have hiX3 : ∀ w ∈ wsX30, w ∈ wsX3_cell := by decide +kernel
  refine lv_aload_n hx hb dX3_cell_0 rfl (lv_at hl 0 rfl) ?_
  refine lv_iload_n hx hb dX3_cell_1 rfl (lv_at hl 1 rfl) ?_
  refine lv_iload_n hx hb dX3_cell_2 rfl (lv_at hl 2 rfl) ?_
  refine call_Vi (wr := ([] : va_W)) [.int x, .int y] [] ⟨hx, hb, hml, hown, hts⟩ hK hX hA hP hD hS (m_isCell l G _ b gc gd gw gf gp ga gb gh gg gx ge n k z t kn pl lf pn x y (by omega) (by omega) (by omega) (by omega) (by omega) (by omega) (by omega) hga hgb) (cwV 2 hts gX3_cell_X3_isCell rfl rfl rfl (by decide +kernel) ⟨Nat.le_of_ble_eq_true rfl, Nat.le_of_ble_eq_true rfl⟩) 3 0 rfl rfl rfl [0, 1, 2, 3, 4, 5, 6, 7, 8, 9, 10, 11] [] rfl rfl (by decide) (by decide) (by decide) rfl hl.1 (Nat.le_of_ble_eq_true rfl) dX3_cell_3 ⟨Nat.zero_le _, Nat.zero_le _⟩ (fun r_1 u H locs hw hP hD hS => ?_)
  obtain rfl := hw
  have hP : va_P G.1 vwCl (wMd G b gc gd gw gf gp ga gb gh gg gx ge n k z t kn pl lf pn) H := hP
  have hD : va_D A (wMd G b gc gd gw gf gp ga gb gh gg gx ge n k z t kn pl lf pn) := hD
  refine lv_if_eq (tgt := 23) hx hb dX3_cell_6 (by decide) (fun c6 => ?_) (fun c6 => ?_)
  · refine lv_iconst (v := nI 0) hx hb dX3_cell_23 (by decide) ?_
    exact ret 24 _ _ _ (nI 0) () dX3_cell_24 (by rw [bI_z c6]; rfl) hP hD hS
  · have q6 := bI_n c6
    rw [Bool.and_eq_true] at q6
    obtain ⟨i, hi, rfl⟩ := ok_of (by omega) q6.1
    obtain ⟨j, hj, rfl⟩ := ok_of (n := 34) (by omega) q6.2
    refine lv_aload_n hx hb dX3_cell_9 rfl (lv_at hl 0 rfl) ?_
    refine va_get (D := G.1) (ci := 3) (v := .ref (b 1)) (C := RX3) (T := TX3) (N := 19) hx hb hts hiX3 hown hK hP 0 rfl rfl 0 (by decide) lk7 (fun _ h9 => h9) rfl dX3_cell_10 ?_
    refine lv_bipush (v := nI 34) hx hb dX3_cell_13 (by decide) ?_
    refine lv_iload_n hx hb dX3_cell_15 rfl (lv_at hl 1 rfl) ?_
    refine mu_N hx hb 34 i dX3_cell_16 ?_
    refine lv_iload_n hx hb dX3_cell_17 rfl (lv_at hl 2 rfl) ?_
    refine ad_N hx hb (34 * i) j dX3_cell_18 ?_
    refine rd_i hx hb hK hP 1 rfl ((34 * i) + j) (by omega) (by omega) dX3_cell_19 ?_
    refine lv_goto (tgt := 24) hx hb dX3_cell_20 (by decide) ?_
    exact ret 24 _ _ _ (gc ((34 * i) + j)) () dX3_cell_24 (by rw [q6.1, q6.2, ix_N hi (by omega), ix_N (n := 34) hj (by omega)]; rfl) hP hD hS
set_option maxHeartbeats 4000000 in
set_option maxRecDepth 100000 in
theorem m_spoil (l : Launch) (G : gG) (sz : Nat) (b : Nat → Nat) (gc gd gw gf gp ga gb gh gg gx ge : Nat → Int32) (n k z t : Nat) (kn : Int32) (pl lf pn : Nat) (x y w : Int32) (hn : n ≤ 60) (hk : k ≤ 8) (hz : z ≤ 20) (ht : t ≤ 100000) (hpl : pl ≤ 60) (hlf : lf ≤ 6) (hpn : pn ≤ 1560) (hga : ∀ j, j < 64 → ga j = st_K j) (hgb : ∀ j, j < 8 → gb j = st_S j)  : MetI l yX3_spoil wsX3_spoil ({ frames := 1, cells := 0, slots := 0, locals := 22 } : Room) [.ref (b 0), .int x, .int y, .int w] G (wMd G b gc gd gw gf gp ga gb gh gg gx ge n k z t kn pl lf pn) sz (fun u : (Nat → Int32) × Nat × Int32 => wMd G b u.1 gd gw gf gp ga gb gh gg gx ge n k z u.2.1 u.2.2 pl lf pn) (fun r u => r_spoil gc n t kn x y w r u.1 u.2.1 u.2.2) := by
  refine ent_i _ cX3_spoil 5 RX3 (by decide) rfl rfl (Nat.le_of_ble_eq_true rfl) ?_
  intro p e s m args below meth c A Q ls hx hb hml hts hown hA hK hX ret hl hP hD hS
  have hl : lv_has ls 5 [(0, .ref (b 0)), (1, .int x), (2, .int y), (3, .int w)] := hl
  have lk7 := hts (.fieldLink RX3 7 "MinedLedgerModel" "cells" "[I") (by decide +kernel)
  have hiX3 : ∀ w ∈ wsX30, w ∈ wsX3_spoil := by decide +kernel
  refine lv_aload_n hx hb dX3_spoil_0 rfl (lv_at hl 0 rfl) ?_
  refine lv_iload_n hx hb dX3_spoil_1 rfl (lv_at hl 1 rfl) ?_
  refine lv_iload_n hx hb dX3_spoil_2 rfl (lv_at hl 2 rfl) ?_
  refine call_Vi (wr := ([] : va_W)) [.int x, .int y] [] ⟨hx, hb, hml, hown, hts⟩ hK hX hA hP hD hS (m_isCell l G _ b gc gd gw gf gp ga gb gh gg gx ge n k z t kn pl lf pn x y (by omega) (by omega) (by omega) (by omega) (by omega) (by omega) (by omega) hga hgb) (cwV 2 hts gX3_spoil_X3_isCell rfl rfl rfl (by decide +kernel) ⟨Nat.le_of_ble_eq_true rfl, Nat.le_of_ble_eq_true rfl⟩) 3 0 rfl rfl rfl [0, 1, 2, 3, 4, 5, 6, 7, 8, 9, 10, 11] [] rfl rfl (by decide) (by decide) (by decide) rfl hl.1 (Nat.le_of_ble_eq_true rfl) dX3_spoil_3 ⟨Nat.zero_le _, Nat.zero_le _⟩ (fun r_1 u H locs hw hP hD hS => ?_)
  obtain rfl := hw
  have hP : va_P G.1 vwCl (wMd G b gc gd gw gf gp ga gb gh gg gx ge n k z t kn pl lf pn) H := hP
  have hD : va_D A (wMd G b gc gd gw gf gp ga gb gh gg gx ge n k z t kn pl lf pn) := hD
  refine lv_if_ne (tgt := 11) hx hb dX3_spoil_6 (by decide) (fun c6 => ?_) (fun c6 => ?_)
  · have q6 := bI_n c6
    rw [Bool.and_eq_true] at q6
    obtain ⟨i, hi, rfl⟩ := ok_of (by omega) q6.1
    obtain ⟨j, hj, rfl⟩ := ok_of (n := 34) (by omega) q6.2
    refine lv_aload_n hx hb dX3_spoil_11 rfl (lv_at hl 0 rfl) ?_
    refine va_get (D := G.1) (ci := 3) (v := .ref (b 1)) (C := RX3) (T := TX3) (N := 19) hx hb hts hiX3 hown hK hP 0 rfl rfl 0 (by decide) lk7 (fun _ h9 => h9) rfl dX3_spoil_12 ?_
    refine lv_bipush (v := nI 34) hx hb dX3_spoil_15 (by decide) ?_
    refine lv_iload_n hx hb dX3_spoil_17 rfl (lv_at hl 1 rfl) ?_
    refine mu_N hx hb 34 i dX3_spoil_18 ?_
    refine lv_iload_n hx hb dX3_spoil_19 rfl (lv_at hl 2 rfl) ?_
    refine ad_N hx hb (34 * i) j dX3_spoil_20 ?_
    refine rd_i hx hb hK hP 1 rfl ((34 * i) + j) (by omega) (by omega) dX3_spoil_21 ?_
    refine lv_istore (lv' := [(4, .int (gc ((34 * i) + j))), (0, .ref (b 0)), (1, .int (nI i)), (2, .int (nI j)), (3, .int w)]) hx hb dX3_spoil_22 hl (by decide) rfl (fun ls hl => ?_)
    refine lv_aload_n hx hb dX3_spoil_24 rfl (lv_at hl 1 rfl) ?_
    refine va_get (D := G.1) (ci := 3) (v := .ref (b 1)) (C := RX3) (T := TX3) (N := 19) hx hb hts hiX3 hown hK hP 0 rfl rfl 0 (by decide) lk7 (fun _ h9 => h9) rfl dX3_spoil_25 ?_
    refine lv_bipush (v := nI 34) hx hb dX3_spoil_28 (by decide) ?_
    refine lv_iload_n hx hb dX3_spoil_30 rfl (lv_at hl 2 rfl) ?_
    refine mu_N hx hb 34 i dX3_spoil_31 ?_
    refine lv_iload_n hx hb dX3_spoil_32 rfl (lv_at hl 3 rfl) ?_
    refine ad_N hx hb (34 * i) j dX3_spoil_33 ?_
    refine lv_iload_n hx hb dX3_spoil_34 rfl (lv_at hl 4 rfl) ?_
    refine wr_i hx hb hK hP hD hS 1 rfl ((34 * i) + j) (by omega) (by omega) dX3_spoil_35 (fun H locs hP hD hS => ?_)
    have hP : va_P G.1 vwCl (wMd G b (upd gc ((34 * i) + j) w) gd gw gf gp ga gb gh gg gx ge n k z t kn pl lf pn) H := hP
    have hD : va_D A (wMd G b (upd gc ((34 * i) + j) w) gd gw gf gp ga gb gh gg gx ge n k z t kn pl lf pn) := hD
    refine lv_aload_n hx hb dX3_spoil_36 rfl (lv_at hl 1 rfl) ?_
    refine call_Vv (wr := ([] : va_W)) [] [] ⟨hx, hb, hml, hown, hts⟩ hK hX hA hP hD hS (m_forget l G _ b (upd gc ((34 * i) + j) w) gd gw gf gp ga gb gh gg gx ge n k z t kn pl lf pn  (by omega) (by omega) (by omega) (by omega) (by omega) (by omega) (by omega) hga hgb) (cwV 0 hts gX3_spoil_X3_forget rfl rfl rfl (by decide +kernel) ⟨Nat.le_of_ble_eq_true rfl, Nat.le_of_ble_eq_true rfl⟩) 3 0 rfl rfl rfl [0, 1, 2, 3, 4, 5, 6, 7, 8, 9, 10, 11] [] rfl rfl (by decide) (by decide) (by decide) rfl hl.1 (Nat.le_of_ble_eq_true rfl) dX3_spoil_37 ⟨Nat.zero_le _, Nat.zero_le _⟩ (fun u H locs hw hP hD hS => ?_)
    have hP : va_P G.1 vwCl (wMd G b (upd gc ((34 * i) + j) w) gd gw gf gp ga gb gh gg gx ge n k z 0 (-1) pl lf pn) H := hP
    have hD : va_D A (wMd G b (upd gc ((34 * i) + j) w) gd gw gf gp ga gb gh gg gx ge n k z 0 (-1) pl lf pn) := hD
    refine lv_iload hx hb dX3_spoil_40 (lv_at hl 0 rfl) ?_
    exact ret 42 _ _ _ (gc ((34 * i) + j)) (upd gc ((34 * i) + j) w, 0, (-1)) dX3_spoil_42 (Or.inr ⟨i, j, hi, hj, rfl, rfl, rfl, rfl, rfl, rfl⟩) hP hD hS
  · refine lv_iconst (v := nI 0) hx hb dX3_spoil_9 (by decide) ?_
    exact ret 10 _ _ _ (nI 0) (gc, t, kn) dX3_spoil_10 (Or.inl ⟨bI_z c6, rfl, rfl, rfl, rfl⟩) hP hD hS
set_option maxHeartbeats 4000000 in
set_option maxRecDepth 100000 in
theorem m_proof (l : Launch) (G : gG) (sz : Nat) (b : Nat → Nat) (gc gd gw gf gp ga gb gh gg gx ge : Nat → Int32) (n k z t : Nat) (kn : Int32) (pl lf pn : Nat) (x : Int32) (hn : n ≤ 60) (hk : k ≤ 8) (hz : z ≤ 20) (ht : t ≤ 100000) (hpl : pl ≤ 60) (hlf : lf ≤ 6) (hpn : pn ≤ 1560) (hga : ∀ j, j < 64 → ga j = st_K j) (hgb : ∀ j, j < 8 → gb j = st_S j)  : MetI l yX3_proof wsX3_proof ({ frames := 0, cells := 0, slots := 0, locals := 0 } : Room) [.ref (b 0), .int x] G (wMd G b gc gd gw gf gp ga gb gh gg gx ge n k z t kn pl lf pn) sz (fun _ : Unit => wMd G b gc gd gw gf gp ga gb gh gg gx ge n k z t kn pl lf pn) (fun r _ => r = if p_ok x pn then gp (p_ix x) else nI 0) := by
  refine ent_i _ cX3_proof 2 RX3 (by decide) rfl rfl (Nat.le_of_ble_eq_true rfl) ?_
  intro p e s m args below meth c A Q ls hx hb hml hts hown hA hK hX ret hl hP hD hS
  have hl : lv_has ls 2 [(0, .ref (b 0)), (1, .int x)] := hl
  have lk27 := hts (.fieldLink RX3 27 "MinedLedgerModel" "proof" "[I") (by decide +kernel)
  have lk216 := hts (.fieldLink RX3 216 "MinedLedgerModel" "proofSize" "I") (by decide +kernel)
  have hiX3 : ∀ w ∈ wsX30, w ∈ wsX3_proof := by decide +kernel
  refine lv_iload_n hx hb dX3_proof_0 rfl (lv_at hl 1 rfl) ?_
  refine ifz_lt hx hb x 21 dX3_proof_1 (by decide) (fun c1 => ?_) (fun c1 => ?_)
  · refine lv_iconst (v := nI 0) hx hb dX3_proof_21 (by decide) ?_
    exact ret 22 _ _ _ (nI 0) () dX3_proof_22 (by rw [ok_F (Or.inl c1)]; rfl) hP hD hS
  · refine lv_iload_n hx hb dX3_proof_4 rfl (lv_at hl 1 rfl) ?_
    refine lv_aload_n hx hb dX3_proof_5 rfl (lv_at hl 0 rfl) ?_
    refine va_get (D := G.1) (ci := 3) (v := .int (nI pn)) (C := RX3) (T := TX3) (N := 19) hx hb hts hiX3 hown hK hP 0 rfl rfl 12 (by decide) lk216 (fun _ h9 => h9) rfl dX3_proof_6 ?_
    refine cmz_gezn hx hb x pn 21 (by omega) dX3_proof_9 (by decide) (fun c9 => ?_) (fun c9 => ?_)
    · refine lv_iconst (v := nI 0) hx hb dX3_proof_21 (by decide) ?_
      exact ret 22 _ _ _ (nI 0) () dX3_proof_22 (by rw [ok_F (Or.inr c9)]; rfl) hP hD hS
    · obtain ⟨j, hj, rfl⟩ := in_N (by omega) c1 c9
      refine lv_aload_n hx hb dX3_proof_12 rfl (lv_at hl 0 rfl) ?_
      refine va_get (D := G.1) (ci := 3) (v := .ref (b 5)) (C := RX3) (T := TX3) (N := 19) hx hb hts hiX3 hown hK hP 0 rfl rfl 11 (by decide) lk27 (fun _ h9 => h9) rfl dX3_proof_13 ?_
      refine lv_iload_n hx hb dX3_proof_16 rfl (lv_at hl 1 rfl) ?_
      refine rd_i hx hb hK hP 5 rfl j (by omega) (by omega) dX3_proof_17 ?_
      refine lv_goto (tgt := 22) hx hb dX3_proof_18 (by decide) ?_
      exact ret 22 _ _ _ (gp j) () dX3_proof_22 (by rw [ok_N (by omega), decide_eq_true hj, if_pos rfl, ix_N hj (by omega)]) hP hD hS
set_option maxHeartbeats 4000000 in
set_option maxRecDepth 100000 in
theorem m_forge (l : Launch) (G : gG) (sz : Nat) (b : Nat → Nat) (gc gd gw gf gp ga gb gh gg gx ge : Nat → Int32) (n k z t : Nat) (kn : Int32) (pl lf pn : Nat) (x w : Int32) (hn : n ≤ 60) (hk : k ≤ 8) (hz : z ≤ 20) (ht : t ≤ 100000) (hpl : pl ≤ 60) (hlf : lf ≤ 6) (hpn : pn ≤ 1560) (hga : ∀ j, j < 64 → ga j = st_K j) (hgb : ∀ j, j < 8 → gb j = st_S j)  : MetI l yX3_forge wsX3_forge ({ frames := 0, cells := 0, slots := 0, locals := 0 } : Room) [.ref (b 0), .int x, .int w] G (wMd G b gc gd gw gf gp ga gb gh gg gx ge n k z t kn pl lf pn) sz (fun u : (Nat → Int32) => wMd G b gc gd gw gf u ga gb gh gg gx ge n k z t kn pl lf pn) (fun r u => q_forge gp pn x w r u) := by
  refine ent_i _ cX3_forge 4 RX3 (by decide) rfl rfl (Nat.le_of_ble_eq_true rfl) ?_
  intro p e s m args below meth c A Q ls hx hb hml hts hown hA hK hX ret hl hP hD hS
  have hl : lv_has ls 4 [(0, .ref (b 0)), (1, .int x), (2, .int w)] := hl
  have lk27 := hts (.fieldLink RX3 27 "MinedLedgerModel" "proof" "[I") (by decide +kernel)
  have lk216 := hts (.fieldLink RX3 216 "MinedLedgerModel" "proofSize" "I") (by decide +kernel)
  have hiX3 : ∀ w ∈ wsX30, w ∈ wsX3_forge := by decide +kernel
  refine lv_iload_n hx hb dX3_forge_0 rfl (lv_at hl 1 rfl) ?_
  refine ifz_lt hx hb x 12 dX3_forge_1 (by decide) (fun c1 => ?_) (fun c1 => ?_)
  · refine lv_iconst (v := nI 0) hx hb dX3_forge_12 (by decide) ?_
    exact ret 13 _ _ _ (nI 0) gp dX3_forge_13 (Or.inl ⟨ok_F (Or.inl c1), rfl, rfl⟩) hP hD hS
  · refine lv_iload_n hx hb dX3_forge_4 rfl (lv_at hl 1 rfl) ?_
    refine lv_aload_n hx hb dX3_forge_5 rfl (lv_at hl 0 rfl) ?_
    refine va_get (D := G.1) (ci := 3) (v := .int (nI pn)) (C := RX3) (T := TX3) (N := 19) hx hb hts hiX3 hown hK hP 0 rfl rfl 12 (by decide) lk216 (fun _ h9 => h9) rfl dX3_forge_6 ?_
    refine cmz_ltzn hx hb x pn 14 (by omega) dX3_forge_9 (by decide) (fun c9 => ?_) (fun c9 => ?_)
    · obtain ⟨j, hj, rfl⟩ := in_N (by omega) c1 c9
      refine lv_aload_n hx hb dX3_forge_14 rfl (lv_at hl 0 rfl) ?_
      refine va_get (D := G.1) (ci := 3) (v := .ref (b 5)) (C := RX3) (T := TX3) (N := 19) hx hb hts hiX3 hown hK hP 0 rfl rfl 11 (by decide) lk27 (fun _ h9 => h9) rfl dX3_forge_15 ?_
      refine lv_iload_n hx hb dX3_forge_18 rfl (lv_at hl 1 rfl) ?_
      refine rd_i hx hb hK hP 5 rfl j (by omega) (by omega) dX3_forge_19 ?_
      refine lv_istore_n (lv' := [(3, .int (gp j)), (0, .ref (b 0)), (1, .int (nI j)), (2, .int w)]) hx hb dX3_forge_20 rfl hl (by decide) rfl (fun ls hl => ?_)
      refine lv_aload_n hx hb dX3_forge_21 rfl (lv_at hl 1 rfl) ?_
      refine va_get (D := G.1) (ci := 3) (v := .ref (b 5)) (C := RX3) (T := TX3) (N := 19) hx hb hts hiX3 hown hK hP 0 rfl rfl 11 (by decide) lk27 (fun _ h9 => h9) rfl dX3_forge_22 ?_
      refine lv_iload_n hx hb dX3_forge_25 rfl (lv_at hl 2 rfl) ?_
      refine lv_iload_n hx hb dX3_forge_26 rfl (lv_at hl 3 rfl) ?_
      refine wr_i hx hb hK hP hD hS 5 rfl j (by omega) (by omega) dX3_forge_27 (fun H locs hP hD hS => ?_)
      have hP : va_P G.1 vwCl (wMd G b gc gd gw gf (upd gp j w) ga gb gh gg gx ge n k z t kn pl lf pn) H := hP
      have hD : va_D A (wMd G b gc gd gw gf (upd gp j w) ga gb gh gg gx ge n k z t kn pl lf pn) := hD
      refine lv_iload_n hx hb dX3_forge_28 rfl (lv_at hl 0 rfl) ?_
      exact ret 29 _ _ _ (gp j) (upd gp j w) dX3_forge_29 (Or.inr ⟨j, hj, rfl, rfl, rfl⟩) hP hD hS
    · refine lv_iconst (v := nI 0) hx hb dX3_forge_12 (by decide) ?_
      exact ret 13 _ _ _ (nI 0) gp dX3_forge_13 (Or.inl ⟨ok_F (Or.inr c9), rfl, rfl⟩) hP hD hS
set_option maxHeartbeats 4000000 in
set_option maxRecDepth 100000 in
theorem m_stir (l : Launch) (G : gG) (sz : Nat) (b : Nat → Nat) (gc gd gw gf gp ga gb gh gg gx ge : Nat → Int32) (n k z t : Nat) (kn : Int32) (pl lf pn : Nat) (x y : Int32) (hn : n ≤ 60) (hk : k ≤ 8) (hz : z ≤ 20) (ht : t ≤ 100000) (hpl : pl ≤ 60) (hlf : lf ≤ 6) (hpn : pn ≤ 1560) (hga : ∀ j, j < 64 → ga j = st_K j) (hgb : ∀ j, j < 8 → gb j = st_S j)  : MetI l yX3_stir wsX3_stir ({ frames := 1, cells := 0, slots := 0, locals := 21 } : Room) [.ref (b 0), .int x, .int y] G (wMd G b gc gd gw gf gp ga gb gh gg gx ge n k z t kn pl lf pn) sz (fun _ : Unit => wMd G b gc gd gw gf gp ga gb gh gg gx ge n k z t kn pl lf pn) (fun r _ => r = p_stir x y) := by
  refine ent_i _ cX3_stir 5 RX3 (by decide) rfl rfl (Nat.le_of_ble_eq_true rfl) ?_
  intro p e s m args below meth c A Q ls hx hb hml hts hown hA hK hX ret hl hP hD hS
  have hl : lv_has ls 5 [(0, .ref (b 0)), (1, .int x), (2, .int y)] := hl
  refine lv_iload_n hx hb dX3_stir_0 rfl (lv_at hl 1 rfl) ?_
  refine lv_ldc (v := -862048943) hx hb hown (hts (.constant RX3 184 (-862048943)) (by decide +kernel)) dX3_stir_1 ?_
  refine lv_imul hx hb dX3_stir_3 ?_
  refine lv_istore_n (lv' := [(3, .int (x * (-862048943))), (0, .ref (b 0)), (1, .int x), (2, .int y)]) hx hb dX3_stir_4 rfl hl (by decide) rfl (fun ls hl => ?_)
  refine lv_iload_n hx hb dX3_stir_5 rfl (lv_at hl 0 rfl) ?_
  refine lv_bipush (v := nI 17) hx hb dX3_stir_6 (by decide) ?_
  refine call_Si (wr := ([(b 0, .inr (3, [.ref (b 1), .int (nI n), .ref (b 2), .ref (b 3), .int (nI k), .int (nI z), .int (nI t), .int kn, .ref (b 4), .int (nI pl), .int (nI lf), .ref (b 5), .int (nI pn), .ref (b 6), .ref (b 7), .ref (b 8), .ref (b 9), .ref (b 10), .ref (b 11)])), (b 1, .inl (G.2.2.1, 2040, .inl gc)), (b 2, .inl (G.2.2.1, 8, .inl gd)), (b 3, .inl (G.2.2.1, 8, .inl gw)), (b 4, .inl (G.2.2.2, 1024, .inl gf)), (b 5, .inl (G.2.2.1, 1600, .inl gp)), (b 6, .inl (G.2.2.1, 64, .inl ga)), (b 7, .inl (G.2.2.1, 8, .inl gb)), (b 8, .inl (G.2.2.1, 8, .inl gh)), (b 9, .inl (G.2.2.1, 8, .inl gg)), (b 10, .inl (G.2.2.1, 64, .inl gx)), (b 11, .inl (G.2.2.1, 26, .inl ge))] : va_W)) [.int (x * (-862048943)), .int (nI 17)] [] ⟨hx, hb, hml, hown, hts⟩ hK hX hA hP hD hS (m_turned l G _ (x * (-862048943)) (nI 17)) (va_cwS 2 hts gX3_stir_X3_turned rfl rfl rfl (by decide +kernel) ⟨Nat.le_of_ble_eq_true rfl, Nat.le_of_ble_eq_true rfl⟩) [] [0, 1, 2, 3, 4, 5, 6, 7, 8, 9, 10, 11] rfl rfl (by decide) (by decide) (by decide) rfl hl.1 (Nat.le_of_ble_eq_true rfl) dX3_stir_8 ⟨Nat.zero_le _, Nat.zero_le _⟩ (fun r_1 u H locs hw hP hD hS => ?_)
  obtain rfl := hw
  have hP : va_P G.1 vwCl (wMd G b gc gd gw gf gp ga gb gh gg gx ge n k z t kn pl lf pn) H := hP
  have hD : va_D A (wMd G b gc gd gw gf gp ga gb gh gg gx ge n k z t kn pl lf pn) := hD
  refine lv_ldc (v := 461845907) hx hb hown (hts (.constant RX3 185 (461845907)) (by decide +kernel)) dX3_stir_11 ?_
  refine top_i (nI 461845907) (by decide) ?_
  refine lv_imul hx hb dX3_stir_13 ?_
  refine lv_istore_n (lv' := [(3, .int ((p_rot (x * (-862048943)) (nI 17)) * nI 461845907)), (0, .ref (b 0)), (1, .int x), (2, .int y)]) hx hb dX3_stir_14 rfl hl (by decide) rfl (fun ls hl => ?_)
  refine lv_iload_n hx hb dX3_stir_15 rfl (lv_at hl 3 rfl) ?_
  refine lv_iload_n hx hb dX3_stir_16 rfl (lv_at hl 0 rfl) ?_
  refine lv_ixor hx hb dX3_stir_17 ?_
  refine lv_istore (lv' := [(4, .int (y ^^^ ((p_rot (x * (-862048943)) (nI 17)) * nI 461845907))), (3, .int ((p_rot (x * (-862048943)) (nI 17)) * nI 461845907)), (0, .ref (b 0)), (1, .int x), (2, .int y)]) hx hb dX3_stir_18 hl (by decide) rfl (fun ls hl => ?_)
  refine lv_iload hx hb dX3_stir_20 (lv_at hl 0 rfl) ?_
  refine lv_bipush (v := nI 19) hx hb dX3_stir_22 (by decide) ?_
  refine call_Si (wr := ([(b 0, .inr (3, [.ref (b 1), .int (nI n), .ref (b 2), .ref (b 3), .int (nI k), .int (nI z), .int (nI t), .int kn, .ref (b 4), .int (nI pl), .int (nI lf), .ref (b 5), .int (nI pn), .ref (b 6), .ref (b 7), .ref (b 8), .ref (b 9), .ref (b 10), .ref (b 11)])), (b 1, .inl (G.2.2.1, 2040, .inl gc)), (b 2, .inl (G.2.2.1, 8, .inl gd)), (b 3, .inl (G.2.2.1, 8, .inl gw)), (b 4, .inl (G.2.2.2, 1024, .inl gf)), (b 5, .inl (G.2.2.1, 1600, .inl gp)), (b 6, .inl (G.2.2.1, 64, .inl ga)), (b 7, .inl (G.2.2.1, 8, .inl gb)), (b 8, .inl (G.2.2.1, 8, .inl gh)), (b 9, .inl (G.2.2.1, 8, .inl gg)), (b 10, .inl (G.2.2.1, 64, .inl gx)), (b 11, .inl (G.2.2.1, 26, .inl ge))] : va_W)) [.int (y ^^^ ((p_rot (x * (-862048943)) (nI 17)) * nI 461845907)), .int (nI 19)] [] ⟨hx, hb, hml, hown, hts⟩ hK hX hA hP hD hS (m_turned l G _ (y ^^^ ((p_rot (x * (-862048943)) (nI 17)) * nI 461845907)) (nI 19)) (va_cwS 2 hts gX3_stir_X3_turned rfl rfl rfl (by decide +kernel) ⟨Nat.le_of_ble_eq_true rfl, Nat.le_of_ble_eq_true rfl⟩) [] [0, 1, 2, 3, 4, 5, 6, 7, 8, 9, 10, 11] rfl rfl (by decide) (by decide) (by decide) rfl hl.1 (Nat.le_of_ble_eq_true rfl) dX3_stir_24 ⟨Nat.zero_le _, Nat.zero_le _⟩ (fun r_2 u H locs hw hP hD hS => ?_)
  obtain rfl := hw
  have hP : va_P G.1 vwCl (wMd G b gc gd gw gf gp ga gb gh gg gx ge n k z t kn pl lf pn) H := hP
  have hD : va_D A (wMd G b gc gd gw gf gp ga gb gh gg gx ge n k z t kn pl lf pn) := hD
  refine lv_iconst (v := nI 5) hx hb dX3_stir_27 (by decide) ?_
  refine lv_imul hx hb dX3_stir_28 ?_
  refine lv_ldc (v := -430675100) hx hb hown (hts (.constant RX3 186 (-430675100)) (by decide +kernel)) dX3_stir_29 ?_
  refine lv_iadd hx hb dX3_stir_31 ?_
  refine lv_istore (lv' := [(4, .int (((p_rot (y ^^^ ((p_rot (x * (-862048943)) (nI 17)) * nI 461845907)) (nI 19)) * nI 5) + (-430675100))), (3, .int ((p_rot (x * (-862048943)) (nI 17)) * nI 461845907)), (0, .ref (b 0)), (1, .int x), (2, .int y)]) hx hb dX3_stir_32 hl (by decide) rfl (fun ls hl => ?_)
  refine lv_iload hx hb dX3_stir_34 (lv_at hl 0 rfl) ?_
  refine lv_iconst (v := nI 4) hx hb dX3_stir_36 (by decide) ?_
  refine lv_ixor hx hb dX3_stir_37 ?_
  refine lv_istore (lv' := [(4, .int ((((p_rot (y ^^^ ((p_rot (x * (-862048943)) (nI 17)) * nI 461845907)) (nI 19)) * nI 5) + (-430675100)) ^^^ nI 4)), (3, .int ((p_rot (x * (-862048943)) (nI 17)) * nI 461845907)), (0, .ref (b 0)), (1, .int x), (2, .int y)]) hx hb dX3_stir_38 hl (by decide) rfl (fun ls hl => ?_)
  refine lv_iload hx hb dX3_stir_40 (lv_at hl 0 rfl) ?_
  refine lv_iload hx hb dX3_stir_42 (lv_at hl 0 rfl) ?_
  refine lv_bipush (v := nI 16) hx hb dX3_stir_44 (by decide) ?_
  refine lv_iushr (v := (p_ush ((((p_rot (y ^^^ ((p_rot (x * (-862048943)) (nI 17)) * nI 461845907)) (nI 19)) * nI 5) + (-430675100)) ^^^ nI 4) (nI 16))) hx hb dX3_stir_46 rfl ?_
  refine lv_ixor hx hb dX3_stir_47 ?_
  refine lv_ldc (v := -2048144789) hx hb hown (hts (.constant RX3 187 (-2048144789)) (by decide +kernel)) dX3_stir_48 ?_
  refine lv_imul hx hb dX3_stir_50 ?_
  refine lv_istore (lv' := [(4, .int ((((((p_rot (y ^^^ ((p_rot (x * (-862048943)) (nI 17)) * nI 461845907)) (nI 19)) * nI 5) + (-430675100)) ^^^ nI 4) ^^^ (p_ush ((((p_rot (y ^^^ ((p_rot (x * (-862048943)) (nI 17)) * nI 461845907)) (nI 19)) * nI 5) + (-430675100)) ^^^ nI 4) (nI 16))) * (-2048144789))), (3, .int ((p_rot (x * (-862048943)) (nI 17)) * nI 461845907)), (0, .ref (b 0)), (1, .int x), (2, .int y)]) hx hb dX3_stir_51 hl (by decide) rfl (fun ls hl => ?_)
  refine lv_iload hx hb dX3_stir_53 (lv_at hl 0 rfl) ?_
  refine lv_iload hx hb dX3_stir_55 (lv_at hl 0 rfl) ?_
  refine lv_bipush (v := nI 13) hx hb dX3_stir_57 (by decide) ?_
  refine lv_iushr (v := (p_ush ((((((p_rot (y ^^^ ((p_rot (x * (-862048943)) (nI 17)) * nI 461845907)) (nI 19)) * nI 5) + (-430675100)) ^^^ nI 4) ^^^ (p_ush ((((p_rot (y ^^^ ((p_rot (x * (-862048943)) (nI 17)) * nI 461845907)) (nI 19)) * nI 5) + (-430675100)) ^^^ nI 4) (nI 16))) * (-2048144789)) (nI 13))) hx hb dX3_stir_59 rfl ?_
  refine lv_ixor hx hb dX3_stir_60 ?_
  refine lv_ldc (v := -1028477387) hx hb hown (hts (.constant RX3 188 (-1028477387)) (by decide +kernel)) dX3_stir_61 ?_
  refine lv_imul hx hb dX3_stir_63 ?_
  refine lv_istore (lv' := [(4, .int ((((((((p_rot (y ^^^ ((p_rot (x * (-862048943)) (nI 17)) * nI 461845907)) (nI 19)) * nI 5) + (-430675100)) ^^^ nI 4) ^^^ (p_ush ((((p_rot (y ^^^ ((p_rot (x * (-862048943)) (nI 17)) * nI 461845907)) (nI 19)) * nI 5) + (-430675100)) ^^^ nI 4) (nI 16))) * (-2048144789)) ^^^ (p_ush ((((((p_rot (y ^^^ ((p_rot (x * (-862048943)) (nI 17)) * nI 461845907)) (nI 19)) * nI 5) + (-430675100)) ^^^ nI 4) ^^^ (p_ush ((((p_rot (y ^^^ ((p_rot (x * (-862048943)) (nI 17)) * nI 461845907)) (nI 19)) * nI 5) + (-430675100)) ^^^ nI 4) (nI 16))) * (-2048144789)) (nI 13))) * (-1028477387))), (3, .int ((p_rot (x * (-862048943)) (nI 17)) * nI 461845907)), (0, .ref (b 0)), (1, .int x), (2, .int y)]) hx hb dX3_stir_64 hl (by decide) rfl (fun ls hl => ?_)
  refine lv_iload hx hb dX3_stir_66 (lv_at hl 0 rfl) ?_
  refine lv_iload hx hb dX3_stir_68 (lv_at hl 0 rfl) ?_
  refine lv_bipush (v := nI 16) hx hb dX3_stir_70 (by decide) ?_
  refine lv_iushr (v := (p_ush ((((((((p_rot (y ^^^ ((p_rot (x * (-862048943)) (nI 17)) * nI 461845907)) (nI 19)) * nI 5) + (-430675100)) ^^^ nI 4) ^^^ (p_ush ((((p_rot (y ^^^ ((p_rot (x * (-862048943)) (nI 17)) * nI 461845907)) (nI 19)) * nI 5) + (-430675100)) ^^^ nI 4) (nI 16))) * (-2048144789)) ^^^ (p_ush ((((((p_rot (y ^^^ ((p_rot (x * (-862048943)) (nI 17)) * nI 461845907)) (nI 19)) * nI 5) + (-430675100)) ^^^ nI 4) ^^^ (p_ush ((((p_rot (y ^^^ ((p_rot (x * (-862048943)) (nI 17)) * nI 461845907)) (nI 19)) * nI 5) + (-430675100)) ^^^ nI 4) (nI 16))) * (-2048144789)) (nI 13))) * (-1028477387)) (nI 16))) hx hb dX3_stir_72 rfl ?_
  refine lv_ixor hx hb dX3_stir_73 ?_
  exact ret 74 _ _ _ (((((((((p_rot (y ^^^ ((p_rot (x * (-862048943)) (nI 17)) * nI 461845907)) (nI 19)) * nI 5) + (-430675100)) ^^^ nI 4) ^^^ (p_ush ((((p_rot (y ^^^ ((p_rot (x * (-862048943)) (nI 17)) * nI 461845907)) (nI 19)) * nI 5) + (-430675100)) ^^^ nI 4) (nI 16))) * (-2048144789)) ^^^ (p_ush ((((((p_rot (y ^^^ ((p_rot (x * (-862048943)) (nI 17)) * nI 461845907)) (nI 19)) * nI 5) + (-430675100)) ^^^ nI 4) ^^^ (p_ush ((((p_rot (y ^^^ ((p_rot (x * (-862048943)) (nI 17)) * nI 461845907)) (nI 19)) * nI 5) + (-430675100)) ^^^ nI 4) (nI 16))) * (-2048144789)) (nI 13))) * (-1028477387)) ^^^ (p_ush ((((((((p_rot (y ^^^ ((p_rot (x * (-862048943)) (nI 17)) * nI 461845907)) (nI 19)) * nI 5) + (-430675100)) ^^^ nI 4) ^^^ (p_ush ((((p_rot (y ^^^ ((p_rot (x * (-862048943)) (nI 17)) * nI 461845907)) (nI 19)) * nI 5) + (-430675100)) ^^^ nI 4) (nI 16))) * (-2048144789)) ^^^ (p_ush ((((((p_rot (y ^^^ ((p_rot (x * (-862048943)) (nI 17)) * nI 461845907)) (nI 19)) * nI 5) + (-430675100)) ^^^ nI 4) ^^^ (p_ush ((((p_rot (y ^^^ ((p_rot (x * (-862048943)) (nI 17)) * nI 461845907)) (nI 19)) * nI 5) + (-430675100)) ^^^ nI 4) (nI 16))) * (-2048144789)) (nI 13))) * (-1028477387)) (nI 16))) () dX3_stir_74 (rfl) hP hD hS
set_option maxHeartbeats 4000000 in
set_option maxRecDepth 100000 in
theorem m_bit (l : Launch) (G : gG) (sz : Nat) (b : Nat → Nat) (gc gd gw gf gp ga gb gh gg gx ge : Nat → Int32) (n k z t : Nat) (kn : Int32) (pl lf pn : Nat) (x y : Int32) (hn : n ≤ 60) (hk : k ≤ 8) (hz : z ≤ 20) (ht : t ≤ 100000) (hpl : pl ≤ 60) (hlf : lf ≤ 6) (hpn : pn ≤ 1560) (hga : ∀ j, j < 64 → ga j = st_K j) (hgb : ∀ j, j < 8 → gb j = st_S j)  : MetI l yX3_bit wsX3_bit ({ frames := 2, cells := 0, slots := 0, locals := 45 } : Room) [.ref (b 0), .int x, .int y] G (wMd G b gc gd gw gf gp ga gb gh gg gx ge n k z t kn pl lf pn) sz (fun _ : Unit => wMd G b gc gd gw gf gp ga gb gh gg gx ge n k z t kn pl lf pn) (fun r _ => r = nI (p_bit x y)) := by
  refine ent_i _ cX3_bit 3 RX3 (by decide) rfl rfl (Nat.le_of_ble_eq_true rfl) ?_
  intro p e s m args below meth c A Q ls hx hb hml hts hown hA hK hX ret hl hP hD hS
  have hl : lv_has ls 3 [(0, .ref (b 0)), (1, .int x), (2, .int y)] := hl
  refine lv_aload_n hx hb dX3_bit_0 rfl (lv_at hl 0 rfl) ?_
  refine lv_iload_n hx hb dX3_bit_1 rfl (lv_at hl 1 rfl) ?_
  refine lv_iconst (v := nI 0) hx hb dX3_bit_2 (by decide) ?_
  refine call_Vi (wr := ([] : va_W)) [.int x, .int (nI 0)] [] ⟨hx, hb, hml, hown, hts⟩ hK hX hA hP hD hS (m_stir l G _ b gc gd gw gf gp ga gb gh gg gx ge n k z t kn pl lf pn x (nI 0) (by omega) (by omega) (by omega) (by omega) (by omega) (by omega) (by omega) hga hgb) (cwV 2 hts gX3_bit_X3_stir rfl rfl rfl (by decide +kernel) ⟨Nat.le_of_ble_eq_true rfl, Nat.le_of_ble_eq_true rfl⟩) 3 0 rfl rfl rfl [0, 1, 2, 3, 4, 5, 6, 7, 8, 9, 10, 11] [] rfl rfl (by decide) (by decide) (by decide) rfl hl.1 (Nat.le_of_ble_eq_true rfl) dX3_bit_3 ⟨Nat.zero_le _, Nat.zero_le _⟩ (fun r_1 u H locs hw hP hD hS => ?_)
  obtain rfl := hw
  have hP : va_P G.1 vwCl (wMd G b gc gd gw gf gp ga gb gh gg gx ge n k z t kn pl lf pn) H := hP
  have hD : va_D A (wMd G b gc gd gw gf gp ga gb gh gg gx ge n k z t kn pl lf pn) := hD
  refine lv_iload_n hx hb dX3_bit_6 rfl (lv_at hl 2 rfl) ?_
  refine lv_aload_n hx hb dX3_bit_7 rfl (lv_at hl 0 rfl) ?_
  refine lv_iload_n hx hb dX3_bit_8 rfl (lv_at hl 1 rfl) ?_
  refine lv_ldc (v := -1756908916) hx hb hown (hts (.constant RX3 192 (-1756908916)) (by decide +kernel)) dX3_bit_9 ?_
  refine call_Vi (wr := ([] : va_W)) [.int x, .int (-1756908916)] [.int y, .int (p_stir x (nI 0))] ⟨hx, hb, hml, hown, hts⟩ hK hX hA hP hD hS (m_stir l G _ b gc gd gw gf gp ga gb gh gg gx ge n k z t kn pl lf pn x (-1756908916) (by omega) (by omega) (by omega) (by omega) (by omega) (by omega) (by omega) hga hgb) (cwV 2 hts gX3_bit_X3_stir rfl rfl rfl (by decide +kernel) ⟨Nat.le_of_ble_eq_true rfl, Nat.le_of_ble_eq_true rfl⟩) 3 0 rfl rfl rfl [0, 1, 2, 3, 4, 5, 6, 7, 8, 9, 10, 11] [] rfl rfl (by decide) (by decide) (by decide) rfl hl.1 (Nat.le_of_ble_eq_true rfl) dX3_bit_11 ⟨Nat.zero_le _, Nat.zero_le _⟩ (fun r_2 u H locs hw hP hD hS => ?_)
  obtain rfl := hw
  have hP : va_P G.1 vwCl (wMd G b gc gd gw gf gp ga gb gh gg gx ge n k z t kn pl lf pn) H := hP
  have hD : va_D A (wMd G b gc gd gw gf gp ga gb gh gg gx ge n k z t kn pl lf pn) := hD
  refine lv_imul hx hb dX3_bit_14 ?_
  refine lv_iadd hx hb dX3_bit_15 ?_
  refine lv_sipush (v := nI 1023) hx hb dX3_bit_16 (by decide) ?_
  refine lv_iand hx hb dX3_bit_19 ?_
  exact ret 20 _ _ _ (((p_stir x (nI 0)) + (y * (p_stir x (-1756908916)))) &&& nI 1023) () dX3_bit_20 (p_bit_eq x y) hP hD hS
