abbrev p_ix (x : Int32) : Nat := x.toNatClampNeg
theorem ix_N {j n : Nat} (h : j < n) (hn : n ≤ 65536) : p_ix (nI j) = j := nI_clamp (by omega)
theorem in_N {x : Int32} {n : Nat} (hn : n ≤ 65536) (h1 : 0 ≤ x.toInt) (h2 : x.toInt < (n : Int)) : ∃ j : Nat, j < n ∧ x = nI j := ok_of hn (ok_T h1 h2)
def q_put (fr : Nat → Int32) (k t : Nat) (kn x r : Int32) (fr' : Nat → Int32) (k' t' : Nat) (kn' : Int32) : Prop :=
  (8 ≤ k ∧ r = (-3) ∧ fr' = fr ∧ k' = k ∧ t' = t ∧ kn' = kn) ∨ (k < 8 ∧ r = nI (k + 1) ∧ fr' = upd fr (16 + k) x ∧ k' = k + 1 ∧ t' = 0 ∧ kn' = (-1))
def q_takeBack (fr : Nat → Int32) (k t : Nat) (kn x r : Int32) (fr' : Nat → Int32) (k' t' : Nat) (kn' : Int32) : Prop :=
  ((x.toInt < 1 ∨ (k : Int) < x.toInt) ∧ r = (-2) ∧ fr' = fr ∧ k' = k ∧ t' = t ∧ kn' = kn) ∨ (∃ j : Nat, 1 ≤ j ∧ j ≤ k ∧ x = nI j ∧ r = nI (k - j) ∧ fr' = p_fill fr (16 + (k - j)) 24 (nI 0) ∧ k' = k - j ∧ t' = 0 ∧ kn' = (-1))
def q_difficulty (z t : Nat) (kn x r : Int32) (z' t' : Nat) (kn' : Int32) : Prop :=
  ((x.toInt < 0 ∨ 20 < x.toInt) ∧ r = (-2) ∧ z' = z ∧ t' = t ∧ kn' = kn) ∨ (∃ j : Nat, j ≤ 20 ∧ x = nI j ∧ r = nI z ∧ z' = j ∧ t' = 0 ∧ kn' = (-1))
def q_spoil (fc : Nat → Int32) (n t : Nat) (kn x y w r : Int32) (fc' : Nat → Int32) (t' : Nat) (kn' : Int32) : Prop :=
  ((p_ok x n && p_ok y 34) = false ∧ r = nI 0 ∧ fc' = fc ∧ t' = t ∧ kn' = kn) ∨ (∃ i j : Nat, i < n ∧ j < 34 ∧ x = nI i ∧ y = nI j ∧ r = fc (i * 34 + j) ∧ fc' = upd fc (i * 34 + j) w ∧ t' = 0 ∧ kn' = (-1))
def q_forge (fp : Nat → Int32) (pn : Nat) (x w r : Int32) (fp' : Nat → Int32) : Prop :=
  (p_ok x pn = false ∧ r = nI 0 ∧ fp' = fp) ∨ (∃ j : Nat, j < pn ∧ x = nI j ∧ r = fp j ∧ fp' = upd fp j w)
set_option maxHeartbeats 4000000 in
set_option maxRecDepth 100000 in
theorem c_put (l : Launch) (G : gG) (sz : Nat) (a : Nat → Nat) (fm fh fw fb fc fd fr fp : Nat → Int32) (n k z t : Nat) (kn : Int32) (pl lf pn : Nat) (x : Int32) (hn : n ≤ 60) (hk : k ≤ 8) (hz : z ≤ 20) (ht : t ≤ 100000) (hpl : pl ≤ 60) (hlf : lf ≤ 6) (hpn : pn ≤ 1560)  : MetI l yX2_put wsX2_put ({ frames := 1, cells := 0, slots := 0, locals := 20 } : Room) [.ref (a 0), .int x] G (wC G a fm fh fw fb fc fd fr fp n k z t kn pl lf pn) sz (fun u : (Nat → Int32) × Nat × Nat × Int32 => wC G a fm fh fw fb fc fd u.1 fp n u.2.1 z u.2.2.1 u.2.2.2 pl lf pn) (fun r u => q_put fr k t kn x r u.1 u.2.1 u.2.2.1 u.2.2.2) := by
  refine ent_i _ cX2_put 2 RX2 (by decide) rfl rfl (Nat.le_of_ble_eq_true rfl) ?_
  intro p e s m args below meth c A Q ls hx hb hml hts hown hA hK hX ret hl hP hD hS
  have hl : lv_has ls 2 [(0, .ref (a 0)), (1, .int x)] := hl
  have lk30 := hts (.fieldLink RX2 30 "MinedLedger" "draft" "[I") (by decide +kernel)
  have lk40 := hts (.fieldLink RX2 40 "MinedLedger" "wordCount" "I") (by decide +kernel)
  have hiX2 : ∀ w ∈ wsX20, w ∈ wsX2_put := by decide +kernel
  refine lv_aload_n hx hb dX2_put_0 rfl (lv_at hl 0 rfl) ?_
  refine va_get (D := G.1) (ci := 2) (v := .int (nI k)) (C := RX2) (T := TX2) (N := 14) hx hb hts hiX2 hown hK hP 0 rfl rfl 7 (by decide) lk40 (fun _ h9 => h9) rfl dX2_put_1 ?_
  refine lv_bipush (v := nI 8) hx hb dX2_put_4 (by decide) ?_
  refine cmp_lt hx hb k 8 12 (by omega) (by omega) dX2_put_6 (by decide) (fun c6 => ?_) (fun c6 => ?_)
  · refine lv_aload_n hx hb dX2_put_12 rfl (lv_at hl 0 rfl) ?_
    refine va_get (D := G.1) (ci := 2) (v := .ref (a 9)) (C := RX2) (T := TX2) (N := 14) hx hb hts hiX2 hown hK hP 0 rfl rfl 4 (by decide) lk30 (fun _ h9 => h9) rfl dX2_put_13 ?_
    refine lv_bipush (v := nI 16) hx hb dX2_put_16 (by decide) ?_
    refine lv_aload_n hx hb dX2_put_18 rfl (lv_at hl 0 rfl) ?_
    refine va_get (D := G.1) (ci := 2) (v := .int (nI k)) (C := RX2) (T := TX2) (N := 14) hx hb hts hiX2 hown hK hP 0 rfl rfl 7 (by decide) lk40 (fun _ h9 => h9) rfl dX2_put_19 ?_
    refine ad_N hx hb 16 k dX2_put_22 ?_
    refine lv_iload_n hx hb dX2_put_23 rfl (lv_at hl 1 rfl) ?_
    refine wr_i hx hb hK hP hD hS 9 rfl (16 + k) (by omega) (by omega) dX2_put_24 (fun H locs hP hD hS => ?_)
    have hP : va_P G.1 vwCl (wC G a fm fh fw fb fc fd (upd fr (16 + k) x) fp n k z t kn pl lf pn) H := hP
    have hD : va_D A (wC G a fm fh fw fb fc fd (upd fr (16 + k) x) fp n k z t kn pl lf pn) := hD
    refine lv_aload_n hx hb dX2_put_25 rfl (lv_at hl 0 rfl) ?_
    refine lv_dup hx hb dX2_put_26 rfl ?_
    refine va_get (D := G.1) (ci := 2) (v := .int (nI k)) (C := RX2) (T := TX2) (N := 14) hx hb hts hiX2 hown hK hP 0 rfl rfl 7 (by decide) lk40 (fun _ h9 => h9) rfl dX2_put_27 ?_
    refine lv_iconst (v := nI 1) hx hb dX2_put_30 (by decide) ?_
    refine ad_N hx hb k 1 dX2_put_31 ?_
    refine va_put (D := G.1) (ci := 2) (v := .int (nI (k + 1))) (ty := .int) (C := RX2) (T := TX2) (N := 14) hx hb hts hiX2 tyX2 tyX2_ok nmX2 hown hK hP hD hS 0 rfl rfl 7 (by decide) lk40 (fun _ h9 => h9) rfl (by decide +kernel) rfl rfl (Nat.le_of_ble_eq_true rfl) dX2_put_32 (fun H locs hP hD hS => ?_)
    have hP : va_P G.1 vwCl (wC G a fm fh fw fb fc fd (upd fr (16 + k) x) fp n (k + 1) z t kn pl lf pn) H := hP
    have hD : va_D A (wC G a fm fh fw fb fc fd (upd fr (16 + k) x) fp n (k + 1) z t kn pl lf pn) := hD
    refine lv_aload_n hx hb dX2_put_35 rfl (lv_at hl 0 rfl) ?_
    refine call_Vv (wr := ([] : va_W)) [] [] ⟨hx, hb, hml, hown, hts⟩ hK hX hA hP hD hS (c_forgetNonces l G _ a fm fh fw fb fc fd (upd fr (16 + k) x) fp n (k + 1) z t kn pl lf pn  (by omega) (by omega) (by omega) (by omega) (by omega) (by omega) (by omega)) (cwV 0 hts gX2_put_X2_forgetNonces rfl rfl rfl (by decide +kernel) ⟨Nat.le_of_ble_eq_true rfl, Nat.le_of_ble_eq_true rfl⟩) 2 0 rfl rfl rfl [0, 1, 2, 3, 4, 5, 6, 7, 8, 9, 10] [] rfl rfl (by decide) (by decide) (by decide) rfl hl.1 (Nat.le_of_ble_eq_true rfl) dX2_put_36 ⟨Nat.zero_le _, Nat.zero_le _⟩ (fun u H locs hw hP hD hS => ?_)
    have hP : va_P G.1 vwCl (wC G a fm fh fw fb fc fd (upd fr (16 + k) x) fp n (k + 1) z 0 (-1) pl lf pn) H := hP
    have hD : va_D A (wC G a fm fh fw fb fc fd (upd fr (16 + k) x) fp n (k + 1) z 0 (-1) pl lf pn) := hD
    refine lv_aload_n hx hb dX2_put_39 rfl (lv_at hl 0 rfl) ?_
    refine va_get (D := G.1) (ci := 2) (v := .int (nI (k + 1))) (C := RX2) (T := TX2) (N := 14) hx hb hts hiX2 hown hK hP 0 rfl rfl 7 (by decide) lk40 (fun _ h9 => h9) rfl dX2_put_40 ?_
    exact ret 43 _ _ _ (nI (k + 1)) (upd fr (16 + k) x, k + 1, 0, (-1)) dX2_put_43 (Or.inr ⟨c6, rfl, rfl, rfl, rfl, rfl⟩) hP hD hS
  · refine lv_bipush (v := (-3)) hx hb dX2_put_9 (by decide) ?_
    exact ret 11 _ _ _ (-3) (fr, k, t, kn) dX2_put_11 (Or.inl ⟨c6, rfl, rfl, rfl, rfl, rfl⟩) hP hD hS
set_option maxHeartbeats 4000000 in
set_option maxRecDepth 100000 in
theorem c_takeBack (l : Launch) (G : gG) (sz : Nat) (a : Nat → Nat) (fm fh fw fb fc fd fr fp : Nat → Int32) (n k z t : Nat) (kn : Int32) (pl lf pn : Nat) (x : Int32) (hn : n ≤ 60) (hk : k ≤ 8) (hz : z ≤ 20) (ht : t ≤ 100000) (hpl : pl ≤ 60) (hlf : lf ≤ 6) (hpn : pn ≤ 1560)  : MetI l yX2_takeBack wsX2_takeBack ({ frames := 3, cells := 0, slots := 0, locals := 67 } : Room) [.ref (a 0), .int x] G (wC G a fm fh fw fb fc fd fr fp n k z t kn pl lf pn) sz (fun u : (Nat → Int32) × Nat × Nat × Int32 => wC G a fm fh fw fb fc fd u.1 fp n u.2.1 z u.2.2.1 u.2.2.2 pl lf pn) (fun r u => q_takeBack fr k t kn x r u.1 u.2.1 u.2.2.1 u.2.2.2) := by
  refine ent_i _ cX2_takeBack 2 RX2 (by decide) rfl rfl (Nat.le_of_ble_eq_true rfl) ?_
  intro p e s m args below meth c A Q ls hx hb hml hts hown hA hK hX ret hl hP hD hS
  have hl : lv_has ls 2 [(0, .ref (a 0)), (1, .int x)] := hl
  have lk40 := hts (.fieldLink RX2 40 "MinedLedger" "wordCount" "I") (by decide +kernel)
  have hiX2 : ∀ w ∈ wsX20, w ∈ wsX2_takeBack := by decide +kernel
  refine lv_iload_n hx hb dX2_takeBack_0 rfl (lv_at hl 1 rfl) ?_
  refine lv_iconst (v := nI 1) hx hb dX2_takeBack_1 (by decide) ?_
  refine cmz_ltzn hx hb x 1 13 (by omega) dX2_takeBack_2 (by decide) (fun c2 => ?_) (fun c2 => ?_)
  · refine lv_bipush (v := (-2)) hx hb dX2_takeBack_13 (by decide) ?_
    exact ret 15 _ _ _ (-2) (fr, k, t, kn) dX2_takeBack_15 (Or.inl ⟨Or.inl c2, rfl, rfl, rfl, rfl, rfl⟩) hP hD hS
  · refine lv_iload_n hx hb dX2_takeBack_5 rfl (lv_at hl 1 rfl) ?_
    refine lv_aload_n hx hb dX2_takeBack_6 rfl (lv_at hl 0 rfl) ?_
    refine va_get (D := G.1) (ci := 2) (v := .int (nI k)) (C := RX2) (T := TX2) (N := 14) hx hb hts hiX2 hown hK hP 0 rfl rfl 7 (by decide) lk40 (fun _ h9 => h9) rfl dX2_takeBack_7 ?_
    refine cmz_lezn hx hb x k 16 (by omega) dX2_takeBack_10 (by decide) (fun c10 => ?_) (fun c10 => ?_)
    · obtain ⟨j, hj, rfl⟩ := of_nn (x := x) (by omega)
      rw [tI_N hj] at c2 c10
      refine lv_aload_n hx hb dX2_takeBack_16 rfl (lv_at hl 0 rfl) ?_
      refine lv_aload_n hx hb dX2_takeBack_17 rfl (lv_at hl 0 rfl) ?_
      refine va_get (D := G.1) (ci := 2) (v := .int (nI k)) (C := RX2) (T := TX2) (N := 14) hx hb hts hiX2 hown hK hP 0 rfl rfl 7 (by decide) lk40 (fun _ h9 => h9) rfl dX2_takeBack_18 ?_
      refine lv_iload_n hx hb dX2_takeBack_21 rfl (lv_at hl 1 rfl) ?_
      refine su_N hx hb k j (by omega) dX2_takeBack_22 ?_
      refine call_Vv (wr := ([] : va_W)) [.int (nI (k - j))] [] ⟨hx, hb, hml, hown, hts⟩ hK hX hA hP hD hS (c_clearWordsFrom l G _ a fm fh fw fb fc fd fr fp n k z t kn pl lf pn (k - j) (by omega) (by omega) (by omega) (by omega) (by omega) (by omega) (by omega) (by omega)) (cwV 1 hts gX2_takeBack_X2_clearWordsFrom rfl rfl rfl (by decide +kernel) ⟨Nat.le_of_ble_eq_true rfl, Nat.le_of_ble_eq_true rfl⟩) 2 0 rfl rfl rfl [0, 1, 2, 3, 4, 5, 6, 7, 8, 9, 10] [] rfl rfl (by decide) (by decide) (by decide) rfl hl.1 (Nat.le_of_ble_eq_true rfl) dX2_takeBack_23 ⟨Nat.zero_le _, Nat.zero_le _⟩ (fun u H locs hw hP hD hS => ?_)
      have hP : va_P G.1 vwCl (wC G a fm fh fw fb fc fd (p_fill fr (16 + (k - j)) 24 (nI 0)) fp n (k - j) z t kn pl lf pn) H := hP
      have hD : va_D A (wC G a fm fh fw fb fc fd (p_fill fr (16 + (k - j)) 24 (nI 0)) fp n (k - j) z t kn pl lf pn) := hD
      refine lv_aload_n hx hb dX2_takeBack_26 rfl (lv_at hl 0 rfl) ?_
      refine call_Vv (wr := ([] : va_W)) [] [] ⟨hx, hb, hml, hown, hts⟩ hK hX hA hP hD hS (c_forgetNonces l G _ a fm fh fw fb fc fd (p_fill fr (16 + (k - j)) 24 (nI 0)) fp n (k - j) z t kn pl lf pn  (by omega) (by omega) (by omega) (by omega) (by omega) (by omega) (by omega)) (cwV 0 hts gX2_takeBack_X2_forgetNonces rfl rfl rfl (by decide +kernel) ⟨Nat.le_of_ble_eq_true rfl, Nat.le_of_ble_eq_true rfl⟩) 2 0 rfl rfl rfl [0, 1, 2, 3, 4, 5, 6, 7, 8, 9, 10] [] rfl rfl (by decide) (by decide) (by decide) rfl hl.1 (Nat.le_of_ble_eq_true rfl) dX2_takeBack_27 ⟨Nat.zero_le _, Nat.zero_le _⟩ (fun u H locs hw hP hD hS => ?_)
      have hP : va_P G.1 vwCl (wC G a fm fh fw fb fc fd (p_fill fr (16 + (k - j)) 24 (nI 0)) fp n (k - j) z 0 (-1) pl lf pn) H := hP
      have hD : va_D A (wC G a fm fh fw fb fc fd (p_fill fr (16 + (k - j)) 24 (nI 0)) fp n (k - j) z 0 (-1) pl lf pn) := hD
      refine lv_aload_n hx hb dX2_takeBack_30 rfl (lv_at hl 0 rfl) ?_
      refine va_get (D := G.1) (ci := 2) (v := .int (nI (k - j))) (C := RX2) (T := TX2) (N := 14) hx hb hts hiX2 hown hK hP 0 rfl rfl 7 (by decide) lk40 (fun _ h9 => h9) rfl dX2_takeBack_31 ?_
      exact ret 34 _ _ _ (nI (k - j)) (p_fill fr (16 + (k - j)) 24 (nI 0), k - j, 0, (-1)) dX2_takeBack_34 (Or.inr ⟨j, by omega, by omega, rfl, rfl, rfl, rfl, rfl, rfl⟩) hP hD hS
    · refine lv_bipush (v := (-2)) hx hb dX2_takeBack_13 (by decide) ?_
      exact ret 15 _ _ _ (-2) (fr, k, t, kn) dX2_takeBack_15 (Or.inl ⟨Or.inr c10, rfl, rfl, rfl, rfl, rfl⟩) hP hD hS
set_option maxHeartbeats 4000000 in
set_option maxRecDepth 100000 in
theorem c_pending (l : Launch) (G : gG) (sz : Nat) (a : Nat → Nat) (fm fh fw fb fc fd fr fp : Nat → Int32) (n k z t : Nat) (kn : Int32) (pl lf pn : Nat) (x : Int32) (hn : n ≤ 60) (hk : k ≤ 8) (hz : z ≤ 20) (ht : t ≤ 100000) (hpl : pl ≤ 60) (hlf : lf ≤ 6) (hpn : pn ≤ 1560)  : MetI l yX2_pending wsX2_pending ({ frames := 0, cells := 0, slots := 0, locals := 0 } : Room) [.ref (a 0), .int x] G (wC G a fm fh fw fb fc fd fr fp n k z t kn pl lf pn) sz (fun _ : Unit => wC G a fm fh fw fb fc fd fr fp n k z t kn pl lf pn) (fun r _ => r = if p_ok x k then fr (16 + p_ix x) else nI 0) := by
  refine ent_i _ cX2_pending 2 RX2 (by decide) rfl rfl (Nat.le_of_ble_eq_true rfl) ?_
  intro p e s m args below meth c A Q ls hx hb hml hts hown hA hK hX ret hl hP hD hS
  have hl : lv_has ls 2 [(0, .ref (a 0)), (1, .int x)] := hl
  have lk30 := hts (.fieldLink RX2 30 "MinedLedger" "draft" "[I") (by decide +kernel)
  have lk40 := hts (.fieldLink RX2 40 "MinedLedger" "wordCount" "I") (by decide +kernel)
  have hiX2 : ∀ w ∈ wsX20, w ∈ wsX2_pending := by decide +kernel
  refine lv_iload_n hx hb dX2_pending_0 rfl (lv_at hl 1 rfl) ?_
  refine ifz_lt hx hb x 12 dX2_pending_1 (by decide) (fun c1 => ?_) (fun c1 => ?_)
  · refine lv_iconst (v := nI 0) hx hb dX2_pending_12 (by decide) ?_
    exact ret 13 _ _ _ (nI 0) () dX2_pending_13 (by rw [ok_F (Or.inl c1)]; rfl) hP hD hS
  · refine lv_iload_n hx hb dX2_pending_4 rfl (lv_at hl 1 rfl) ?_
    refine lv_aload_n hx hb dX2_pending_5 rfl (lv_at hl 0 rfl) ?_
    refine va_get (D := G.1) (ci := 2) (v := .int (nI k)) (C := RX2) (T := TX2) (N := 14) hx hb hts hiX2 hown hK hP 0 rfl rfl 7 (by decide) lk40 (fun _ h9 => h9) rfl dX2_pending_6 ?_
    refine cmz_ltzn hx hb x k 14 (by omega) dX2_pending_9 (by decide) (fun c9 => ?_) (fun c9 => ?_)
    · obtain ⟨j, hj, rfl⟩ := in_N (by omega) c1 c9
      refine lv_aload_n hx hb dX2_pending_14 rfl (lv_at hl 0 rfl) ?_
      refine va_get (D := G.1) (ci := 2) (v := .ref (a 9)) (C := RX2) (T := TX2) (N := 14) hx hb hts hiX2 hown hK hP 0 rfl rfl 4 (by decide) lk30 (fun _ h9 => h9) rfl dX2_pending_15 ?_
      refine lv_bipush (v := nI 16) hx hb dX2_pending_18 (by decide) ?_
      refine lv_iload_n hx hb dX2_pending_20 rfl (lv_at hl 1 rfl) ?_
      refine ad_N hx hb 16 j dX2_pending_21 ?_
      refine rd_i hx hb hK hP 9 rfl (16 + j) (by omega) (by omega) dX2_pending_22 ?_
      exact ret 23 _ _ _ (fr (16 + j)) () dX2_pending_23 (by rw [ok_N (by omega), decide_eq_true hj, if_pos rfl, ix_N hj (by omega)]) hP hD hS
    · refine lv_iconst (v := nI 0) hx hb dX2_pending_12 (by decide) ?_
      exact ret 13 _ _ _ (nI 0) () dX2_pending_13 (by rw [ok_F (Or.inr c9)]; rfl) hP hD hS
set_option maxHeartbeats 4000000 in
set_option maxRecDepth 100000 in
theorem c_difficulty (l : Launch) (G : gG) (sz : Nat) (a : Nat → Nat) (fm fh fw fb fc fd fr fp : Nat → Int32) (n k z t : Nat) (kn : Int32) (pl lf pn : Nat) (x : Int32) (hn : n ≤ 60) (hk : k ≤ 8) (hz : z ≤ 20) (ht : t ≤ 100000) (hpl : pl ≤ 60) (hlf : lf ≤ 6) (hpn : pn ≤ 1560)  : MetI l yX2_difficulty wsX2_difficulty ({ frames := 1, cells := 0, slots := 0, locals := 20 } : Room) [.ref (a 0), .int x] G (wC G a fm fh fw fb fc fd fr fp n k z t kn pl lf pn) sz (fun u : Nat × Nat × Int32 => wC G a fm fh fw fb fc fd fr fp n k u.1 u.2.1 u.2.2 pl lf pn) (fun r u => q_difficulty z t kn x r u.1 u.2.1 u.2.2) := by
  refine ent_i _ cX2_difficulty 3 RX2 (by decide) rfl rfl (Nat.le_of_ble_eq_true rfl) ?_
  intro p e s m args below meth c A Q ls hx hb hml hts hown hA hK hX ret hl hP hD hS
  have hl : lv_has ls 3 [(0, .ref (a 0)), (1, .int x)] := hl
  have lk52 := hts (.fieldLink RX2 52 "MinedLedger" "zerosAsked" "I") (by decide +kernel)
  have hiX2 : ∀ w ∈ wsX20, w ∈ wsX2_difficulty := by decide +kernel
  refine lv_iload_n hx hb dX2_difficulty_0 rfl (lv_at hl 1 rfl) ?_
  refine ifz_lt hx hb x 10 dX2_difficulty_1 (by decide) (fun c1 => ?_) (fun c1 => ?_)
  · refine lv_bipush (v := (-2)) hx hb dX2_difficulty_10 (by decide) ?_
    exact ret 12 _ _ _ (-2) (z, t, kn) dX2_difficulty_12 (Or.inl ⟨Or.inl c1, rfl, rfl, rfl, rfl⟩) hP hD hS
  · refine lv_iload_n hx hb dX2_difficulty_4 rfl (lv_at hl 1 rfl) ?_
    refine lv_bipush (v := nI 20) hx hb dX2_difficulty_5 (by decide) ?_
    refine cmz_lezn hx hb x 20 13 (by omega) dX2_difficulty_7 (by decide) (fun c7 => ?_) (fun c7 => ?_)
    · obtain ⟨j, hj, rfl⟩ := of_nn (x := x) c1
      rw [tI_N hj] at c1 c7
      refine lv_aload_n hx hb dX2_difficulty_13 rfl (lv_at hl 0 rfl) ?_
      refine va_get (D := G.1) (ci := 2) (v := .int (nI z)) (C := RX2) (T := TX2) (N := 14) hx hb hts hiX2 hown hK hP 0 rfl rfl 8 (by decide) lk52 (fun _ h9 => h9) rfl dX2_difficulty_14 ?_
      refine lv_istore_n (lv' := [(2, .int (nI z)), (0, .ref (a 0)), (1, .int (nI j))]) hx hb dX2_difficulty_17 rfl hl (by decide) rfl (fun ls hl => ?_)
      refine lv_aload_n hx hb dX2_difficulty_18 rfl (lv_at hl 1 rfl) ?_
      refine lv_iload_n hx hb dX2_difficulty_19 rfl (lv_at hl 2 rfl) ?_
      refine va_put (D := G.1) (ci := 2) (v := .int (nI j)) (ty := .int) (C := RX2) (T := TX2) (N := 14) hx hb hts hiX2 tyX2 tyX2_ok nmX2 hown hK hP hD hS 0 rfl rfl 8 (by decide) lk52 (fun _ h9 => h9) rfl (by decide +kernel) rfl rfl (Nat.le_of_ble_eq_true rfl) dX2_difficulty_20 (fun H locs hP hD hS => ?_)
      have hP : va_P G.1 vwCl (wC G a fm fh fw fb fc fd fr fp n k j t kn pl lf pn) H := hP
      have hD : va_D A (wC G a fm fh fw fb fc fd fr fp n k j t kn pl lf pn) := hD
      refine lv_aload_n hx hb dX2_difficulty_23 rfl (lv_at hl 1 rfl) ?_
      refine call_Vv (wr := ([] : va_W)) [] [] ⟨hx, hb, hml, hown, hts⟩ hK hX hA hP hD hS (c_forgetNonces l G _ a fm fh fw fb fc fd fr fp n k j t kn pl lf pn  (by omega) (by omega) (by omega) (by omega) (by omega) (by omega) (by omega)) (cwV 0 hts gX2_difficulty_X2_forgetNonces rfl rfl rfl (by decide +kernel) ⟨Nat.le_of_ble_eq_true rfl, Nat.le_of_ble_eq_true rfl⟩) 2 0 rfl rfl rfl [0, 1, 2, 3, 4, 5, 6, 7, 8, 9, 10] [] rfl rfl (by decide) (by decide) (by decide) rfl hl.1 (Nat.le_of_ble_eq_true rfl) dX2_difficulty_24 ⟨Nat.zero_le _, Nat.zero_le _⟩ (fun u H locs hw hP hD hS => ?_)
      have hP : va_P G.1 vwCl (wC G a fm fh fw fb fc fd fr fp n k j 0 (-1) pl lf pn) H := hP
      have hD : va_D A (wC G a fm fh fw fb fc fd fr fp n k j 0 (-1) pl lf pn) := hD
      refine lv_iload_n hx hb dX2_difficulty_27 rfl (lv_at hl 0 rfl) ?_
      exact ret 28 _ _ _ (nI z) (j, 0, (-1)) dX2_difficulty_28 (Or.inr ⟨j, by omega, rfl, rfl, rfl, rfl, rfl⟩) hP hD hS
    · refine lv_bipush (v := (-2)) hx hb dX2_difficulty_10 (by decide) ?_
      exact ret 12 _ _ _ (-2) (z, t, kn) dX2_difficulty_12 (Or.inl ⟨Or.inr c7, rfl, rfl, rfl, rfl⟩) hP hD hS
set_option maxHeartbeats 4000000 in
set_option maxRecDepth 100000 in
theorem c_tried (l : Launch) (G : gG) (sz : Nat) (a : Nat → Nat) (fm fh fw fb fc fd fr fp : Nat → Int32) (n k z t : Nat) (kn : Int32) (pl lf pn : Nat)  (hn : n ≤ 60) (hk : k ≤ 8) (hz : z ≤ 20) (ht : t ≤ 100000) (hpl : pl ≤ 60) (hlf : lf ≤ 6) (hpn : pn ≤ 1560)  : MetI l yX2_tried wsX2_tried ({ frames := 0, cells := 0, slots := 0, locals := 0 } : Room) [.ref (a 0)] G (wC G a fm fh fw fb fc fd fr fp n k z t kn pl lf pn) sz (fun _ : Unit => wC G a fm fh fw fb fc fd fr fp n k z t kn pl lf pn) (fun r _ => r = nI t) := by
  refine ent_i _ cX2_tried 1 RX2 (by decide) rfl rfl (Nat.le_of_ble_eq_true rfl) ?_
  intro p e s m args below meth c A Q ls hx hb hml hts hown hA hK hX ret hl hP hD hS
  have hl : lv_has ls 1 [(0, .ref (a 0))] := hl
  have lk55 := hts (.fieldLink RX2 55 "MinedLedger" "triedCount" "I") (by decide +kernel)
  have hiX2 : ∀ w ∈ wsX20, w ∈ wsX2_tried := by decide +kernel
  refine lv_aload_n hx hb dX2_tried_0 rfl (lv_at hl 0 rfl) ?_
  refine va_get (D := G.1) (ci := 2) (v := .int (nI t)) (C := RX2) (T := TX2) (N := 14) hx hb hts hiX2 hown hK hP 0 rfl rfl 9 (by decide) lk55 (fun _ h9 => h9) rfl dX2_tried_1 ?_
  exact ret 4 _ _ _ (nI t) () dX2_tried_4 (rfl) hP hD hS
set_option maxHeartbeats 4000000 in
set_option maxRecDepth 100000 in
theorem c_count (l : Launch) (G : gG) (sz : Nat) (a : Nat → Nat) (fm fh fw fb fc fd fr fp : Nat → Int32) (n k z t : Nat) (kn : Int32) (pl lf pn : Nat)  (hn : n ≤ 60) (hk : k ≤ 8) (hz : z ≤ 20) (ht : t ≤ 100000) (hpl : pl ≤ 60) (hlf : lf ≤ 6) (hpn : pn ≤ 1560)  : MetI l yX2_count wsX2_count ({ frames := 0, cells := 0, slots := 0, locals := 0 } : Room) [.ref (a 0)] G (wC G a fm fh fw fb fc fd fr fp n k z t kn pl lf pn) sz (fun _ : Unit => wC G a fm fh fw fb fc fd fr fp n k z t kn pl lf pn) (fun r _ => r = nI n) := by
  refine ent_i _ cX2_count 1 RX2 (by decide) rfl rfl (Nat.le_of_ble_eq_true rfl) ?_
  intro p e s m args below meth c A Q ls hx hb hml hts hown hA hK hX ret hl hP hD hS
  have hl : lv_has ls 1 [(0, .ref (a 0))] := hl
  have lk36 := hts (.fieldLink RX2 36 "MinedLedger" "entryCount" "I") (by decide +kernel)
  have hiX2 : ∀ w ∈ wsX20, w ∈ wsX2_count := by decide +kernel
  refine lv_aload_n hx hb dX2_count_0 rfl (lv_at hl 0 rfl) ?_
  refine va_get (D := G.1) (ci := 2) (v := .int (nI n)) (C := RX2) (T := TX2) (N := 14) hx hb hts hiX2 hown hK hP 0 rfl rfl 6 (by decide) lk36 (fun _ h9 => h9) rfl dX2_count_1 ?_
  exact ret 4 _ _ _ (nI n) () dX2_count_4 (rfl) hP hD hS
set_option maxHeartbeats 4000000 in
set_option maxRecDepth 100000 in
theorem c_fault (l : Launch) (G : gG) (sz : Nat) (a : Nat → Nat) (fm fh fw fb fc fd fr fp : Nat → Int32) (n k z t : Nat) (kn : Int32) (pl lf pn : Nat)  (hn : n ≤ 60) (hk : k ≤ 8) (hz : z ≤ 20) (ht : t ≤ 100000) (hpl : pl ≤ 60) (hlf : lf ≤ 6) (hpn : pn ≤ 1560)  : MetI l yX2_fault wsX2_fault ({ frames := 0, cells := 0, slots := 0, locals := 0 } : Room) [.ref (a 0)] G (wC G a fm fh fw fb fc fd fr fp n k z t kn pl lf pn) sz (fun _ : Unit => wC G a fm fh fw fb fc fd fr fp n k z t kn pl lf pn) (fun r _ => r = nI lf) := by
  refine ent_i _ cX2_fault 1 RX2 (by decide) rfl rfl (Nat.le_of_ble_eq_true rfl) ?_
  intro p e s m args below meth c A Q ls hx hb hml hts hown hA hK hX ret hl hP hD hS
  have hl : lv_has ls 1 [(0, .ref (a 0))] := hl
  have lk64 := hts (.fieldLink RX2 64 "MinedLedger" "latestFault" "I") (by decide +kernel)
  have hiX2 : ∀ w ∈ wsX20, w ∈ wsX2_fault := by decide +kernel
  refine lv_aload_n hx hb dX2_fault_0 rfl (lv_at hl 0 rfl) ?_
  refine va_get (D := G.1) (ci := 2) (v := .int (nI lf)) (C := RX2) (T := TX2) (N := 14) hx hb hts hiX2 hown hK hP 0 rfl rfl 12 (by decide) lk64 (fun _ h9 => h9) rfl dX2_fault_1 ?_
  exact ret 4 _ _ _ (nI lf) () dX2_fault_4 (rfl) hP hD hS
set_option maxHeartbeats 4000000 in
set_option maxRecDepth 100000 in
theorem c_begin (l : Launch) (G : gG) (sz : Nat) (a : Nat → Nat) (fm fh fw fb fc fd fr fp : Nat → Int32) (n k z t : Nat) (kn : Int32) (pl lf pn : Nat)  (hn : n ≤ 60) (hk : k ≤ 8) (hz : z ≤ 20) (ht : t ≤ 100000) (hpl : pl ≤ 60) (hlf : lf ≤ 6) (hpn : pn ≤ 1560)  : MetI l yX2_begin wsX2_begin ({ frames := 0, cells := 0, slots := 0, locals := 0 } : Room) [.ref (a 0)] G (wC G a fm fh fw fb fc fd fr fp n k z t kn pl lf pn) sz (fun _ : Unit => wC G a fm fh fw fb fc fd fr fp n k z t kn 0 lf pn) (fun r _ => r = nI pl) := by
  refine ent_i _ cX2_begin 2 RX2 (by decide) rfl rfl (Nat.le_of_ble_eq_true rfl) ?_
  intro p e s m args below meth c A Q ls hx hb hml hts hown hA hK hX ret hl hP hD hS
  have hl : lv_has ls 2 [(0, .ref (a 0))] := hl
  have lk61 := hts (.fieldLink RX2 61 "MinedLedger" "place" "I") (by decide +kernel)
  have hiX2 : ∀ w ∈ wsX20, w ∈ wsX2_begin := by decide +kernel
  refine lv_aload_n hx hb dX2_begin_0 rfl (lv_at hl 0 rfl) ?_
  refine va_get (D := G.1) (ci := 2) (v := .int (nI pl)) (C := RX2) (T := TX2) (N := 14) hx hb hts hiX2 hown hK hP 0 rfl rfl 11 (by decide) lk61 (fun _ h9 => h9) rfl dX2_begin_1 ?_
  refine lv_istore_n (lv' := [(1, .int (nI pl)), (0, .ref (a 0))]) hx hb dX2_begin_4 rfl hl (by decide) rfl (fun ls hl => ?_)
  refine lv_aload_n hx hb dX2_begin_5 rfl (lv_at hl 1 rfl) ?_
  refine lv_iconst (v := nI 0) hx hb dX2_begin_6 (by decide) ?_
  refine va_put (D := G.1) (ci := 2) (v := .int (nI 0)) (ty := .int) (C := RX2) (T := TX2) (N := 14) hx hb hts hiX2 tyX2 tyX2_ok nmX2 hown hK hP hD hS 0 rfl rfl 11 (by decide) lk61 (fun _ h9 => h9) rfl (by decide +kernel) rfl rfl (Nat.le_of_ble_eq_true rfl) dX2_begin_7 (fun H locs hP hD hS => ?_)
  have hP : va_P G.1 vwCl (wC G a fm fh fw fb fc fd fr fp n k z t kn 0 lf pn) H := hP
  have hD : va_D A (wC G a fm fh fw fb fc fd fr fp n k z t kn 0 lf pn) := hD
  refine lv_iload_n hx hb dX2_begin_10 rfl (lv_at hl 0 rfl) ?_
  exact ret 11 _ _ _ (nI pl) () dX2_begin_11 (rfl) hP hD hS
set_option maxHeartbeats 4000000 in
set_option maxRecDepth 100000 in
theorem c_head (l : Launch) (G : gG) (sz : Nat) (a : Nat → Nat) (fm fh fw fb fc fd fr fp : Nat → Int32) (n k z t : Nat) (kn : Int32) (pl lf pn : Nat) (x : Int32) (hn : n ≤ 60) (hk : k ≤ 8) (hz : z ≤ 20) (ht : t ≤ 100000) (hpl : pl ≤ 60) (hlf : lf ≤ 6) (hpn : pn ≤ 1560)  : MetI l yX2_head wsX2_head ({ frames := 0, cells := 0, slots := 0, locals := 0 } : Room) [.ref (a 0), .int x] G (wC G a fm fh fw fb fc fd fr fp n k z t kn pl lf pn) sz (fun _ : Unit => wC G a fm fh fw fb fc fd fr fp n k z t kn pl lf pn) (fun r _ => r = if p_ok x 8 then fd (p_ix x) else nI 0) := by
  refine ent_i _ cX2_head 2 RX2 (by decide) rfl rfl (Nat.le_of_ble_eq_true rfl) ?_
  intro p e s m args below meth c A Q ls hx hb hml hts hown hA hK hX ret hl hP hD hS
  have hl : lv_has ls 2 [(0, .ref (a 0)), (1, .int x)] := hl
  have lk27 := hts (.fieldLink RX2 27 "MinedLedger" "headWords" "[I") (by decide +kernel)
  have hiX2 : ∀ w ∈ wsX20, w ∈ wsX2_head := by decide +kernel
  refine lv_iload_n hx hb dX2_head_0 rfl (lv_at hl 1 rfl) ?_
  refine ifz_lt hx hb x 10 dX2_head_1 (by decide) (fun c1 => ?_) (fun c1 => ?_)
  · refine lv_iconst (v := nI 0) hx hb dX2_head_10 (by decide) ?_
    exact ret 11 _ _ _ (nI 0) () dX2_head_11 (by rw [ok_F (n := 8) (Or.inl c1)]; rfl) hP hD hS
  · refine lv_iload_n hx hb dX2_head_4 rfl (lv_at hl 1 rfl) ?_
    refine lv_bipush (v := nI 8) hx hb dX2_head_5 (by decide) ?_
    refine cmz_ltzn hx hb x 8 12 (by omega) dX2_head_7 (by decide) (fun c7 => ?_) (fun c7 => ?_)
    · obtain ⟨j, hj, rfl⟩ := in_N (n := 8) (by omega) c1 c7
      refine lv_aload_n hx hb dX2_head_12 rfl (lv_at hl 0 rfl) ?_
      refine va_get (D := G.1) (ci := 2) (v := .ref (a 8)) (C := RX2) (T := TX2) (N := 14) hx hb hts hiX2 hown hK hP 0 rfl rfl 3 (by decide) lk27 (fun _ h9 => h9) rfl dX2_head_13 ?_
      refine lv_iload_n hx hb dX2_head_16 rfl (lv_at hl 1 rfl) ?_
      refine rd_i hx hb hK hP 8 rfl j (by omega) (by omega) dX2_head_17 ?_
      exact ret 18 _ _ _ (fd j) () dX2_head_18 (by rw [ok_N (by omega), decide_eq_true hj, if_pos rfl, ix_N hj (by omega)]) hP hD hS
    · refine lv_iconst (v := nI 0) hx hb dX2_head_10 (by decide) ?_
      exact ret 11 _ _ _ (nI 0) () dX2_head_11 (by rw [ok_F (n := 8) (Or.inr c7)]; rfl) hP hD hS
set_option maxHeartbeats 4000000 in
set_option maxRecDepth 100000 in
theorem c_cell (l : Launch) (G : gG) (sz : Nat) (a : Nat → Nat) (fm fh fw fb fc fd fr fp : Nat → Int32) (n k z t : Nat) (kn : Int32) (pl lf pn : Nat) (x y : Int32) (hn : n ≤ 60) (hk : k ≤ 8) (hz : z ≤ 20) (ht : t ≤ 100000) (hpl : pl ≤ 60) (hlf : lf ≤ 6) (hpn : pn ≤ 1560)  : MetI l yX2_cell wsX2_cell ({ frames := 2, cells := 0, slots := 0, locals := 43 } : Room) [.ref (a 0), .int x, .int y] G (wC G a fm fh fw fb fc fd fr fp n k z t kn pl lf pn) sz (fun _ : Unit => wC G a fm fh fw fb fc fd fr fp n k z t kn pl lf pn) (fun r _ => r = if (p_ok x n && p_ok y 34) then fc (p_ix x * 34 + p_ix y) else nI 0) := by
  refine ent_i _ cX2_cell 3 RX2 (by decide) rfl rfl (Nat.le_of_ble_eq_true rfl) ?_
  intro p e s m args below meth c A Q ls hx hb hml hts hown hA hK hX ret hl hP hD hS
  have hl : lv_has ls 3 [(0, .ref (a 0)), (1, .int x), (2, .int y)] := hl
  have lk23 := hts (.fieldLink RX2 23 "MinedLedger" "cells" "[I") (by decide +kernel)
  have hiX2 : ∀ w ∈ wsX20, w ∈ wsX2_cell := by decide +kernel
  refine lv_aload_n hx hb dX2_cell_0 rfl (lv_at hl 0 rfl) ?_
  refine lv_iload_n hx hb dX2_cell_1 rfl (lv_at hl 1 rfl) ?_
  refine lv_iload_n hx hb dX2_cell_2 rfl (lv_at hl 2 rfl) ?_
  refine call_Vi (wr := ([] : va_W)) [.int x, .int y] [] ⟨hx, hb, hml, hown, hts⟩ hK hX hA hP hD hS (c_hasCell l G _ a fm fh fw fb fc fd fr fp n k z t kn pl lf pn x y (by omega) (by omega) (by omega) (by omega) (by omega) (by omega) (by omega)) (cwV 2 hts gX2_cell_X2_hasCell rfl rfl rfl (by decide +kernel) ⟨Nat.le_of_ble_eq_true rfl, Nat.le_of_ble_eq_true rfl⟩) 2 0 rfl rfl rfl [0, 1, 2, 3, 4, 5, 6, 7, 8, 9, 10] [] rfl rfl (by decide) (by decide) (by decide) rfl hl.1 (Nat.le_of_ble_eq_true rfl) dX2_cell_3 ⟨Nat.zero_le _, Nat.zero_le _⟩ (fun r_1 u H locs hw hP hD hS => ?_)
  obtain rfl := hw
  have hP : va_P G.1 vwCl (wC G a fm fh fw fb fc fd fr fp n k z t kn pl lf pn) H := hP
  have hD : va_D A (wC G a fm fh fw fb fc fd fr fp n k z t kn pl lf pn) := hD
  refine lv_if_ne (tgt := 11) hx hb dX2_cell_6 (by decide) (fun c6 => ?_) (fun c6 => ?_)
  · have q6 := bI_n c6
    rw [Bool.and_eq_true] at q6
    obtain ⟨i, hi, rfl⟩ := ok_of (by omega) q6.1
    obtain ⟨j, hj, rfl⟩ := ok_of (n := 34) (by omega) q6.2
    refine lv_aload_n hx hb dX2_cell_11 rfl (lv_at hl 0 rfl) ?_
    refine va_get (D := G.1) (ci := 2) (v := .ref (a 7)) (C := RX2) (T := TX2) (N := 14) hx hb hts hiX2 hown hK hP 0 rfl rfl 2 (by decide) lk23 (fun _ h9 => h9) rfl dX2_cell_12 ?_
    refine lv_iload_n hx hb dX2_cell_15 rfl (lv_at hl 1 rfl) ?_
    refine lv_bipush (v := nI 34) hx hb dX2_cell_16 (by decide) ?_
    refine mu_N hx hb i 34 dX2_cell_18 ?_
    refine lv_iload_n hx hb dX2_cell_19 rfl (lv_at hl 2 rfl) ?_
    refine ad_N hx hb (i * 34) j dX2_cell_20 ?_
    refine rd_i hx hb hK hP 7 rfl ((i * 34) + j) (by omega) (by omega) dX2_cell_21 ?_
    exact ret 22 _ _ _ (fc ((i * 34) + j)) () dX2_cell_22 (by rw [q6.1, q6.2, ix_N hi (by omega), ix_N (n := 34) hj (by omega)]; rfl) hP hD hS
  · refine lv_iconst (v := nI 0) hx hb dX2_cell_9 (by decide) ?_
    exact ret 10 _ _ _ (nI 0) () dX2_cell_10 (by rw [bI_z c6]; rfl) hP hD hS
set_option maxHeartbeats 4000000 in
set_option maxRecDepth 100000 in
theorem c_spoil (l : Launch) (G : gG) (sz : Nat) (a : Nat → Nat) (fm fh fw fb fc fd fr fp : Nat → Int32) (n k z t : Nat) (kn : Int32) (pl lf pn : Nat) (x y w : Int32) (hn : n ≤ 60) (hk : k ≤ 8) (hz : z ≤ 20) (ht : t ≤ 100000) (hpl : pl ≤ 60) (hlf : lf ≤ 6) (hpn : pn ≤ 1560)  : MetI l yX2_spoil wsX2_spoil ({ frames := 2, cells := 0, slots := 0, locals := 43 } : Room) [.ref (a 0), .int x, .int y, .int w] G (wC G a fm fh fw fb fc fd fr fp n k z t kn pl lf pn) sz (fun u : (Nat → Int32) × Nat × Int32 => wC G a fm fh fw fb u.1 fd fr fp n k z u.2.1 u.2.2 pl lf pn) (fun r u => q_spoil fc n t kn x y w r u.1 u.2.1 u.2.2) := by
  refine ent_i _ cX2_spoil 5 RX2 (by decide) rfl rfl (Nat.le_of_ble_eq_true rfl) ?_
  intro p e s m args below meth c A Q ls hx hb hml hts hown hA hK hX ret hl hP hD hS
  have hl : lv_has ls 5 [(0, .ref (a 0)), (1, .int x), (2, .int y), (3, .int w)] := hl
  have lk23 := hts (.fieldLink RX2 23 "MinedLedger" "cells" "[I") (by decide +kernel)
  have hiX2 : ∀ w ∈ wsX20, w ∈ wsX2_spoil := by decide +kernel
  refine lv_aload_n hx hb dX2_spoil_0 rfl (lv_at hl 0 rfl) ?_
  refine lv_iload_n hx hb dX2_spoil_1 rfl (lv_at hl 1 rfl) ?_
  refine lv_iload_n hx hb dX2_spoil_2 rfl (lv_at hl 2 rfl) ?_
  refine call_Vi (wr := ([] : va_W)) [.int x, .int y] [] ⟨hx, hb, hml, hown, hts⟩ hK hX hA hP hD hS (c_hasCell l G _ a fm fh fw fb fc fd fr fp n k z t kn pl lf pn x y (by omega) (by omega) (by omega) (by omega) (by omega) (by omega) (by omega)) (cwV 2 hts gX2_spoil_X2_hasCell rfl rfl rfl (by decide +kernel) ⟨Nat.le_of_ble_eq_true rfl, Nat.le_of_ble_eq_true rfl⟩) 2 0 rfl rfl rfl [0, 1, 2, 3, 4, 5, 6, 7, 8, 9, 10] [] rfl rfl (by decide) (by decide) (by decide) rfl hl.1 (Nat.le_of_ble_eq_true rfl) dX2_spoil_3 ⟨Nat.zero_le _, Nat.zero_le _⟩ (fun r_1 u H locs hw hP hD hS => ?_)
  obtain rfl := hw
  have hP : va_P G.1 vwCl (wC G a fm fh fw fb fc fd fr fp n k z t kn pl lf pn) H := hP
  have hD : va_D A (wC G a fm fh fw fb fc fd fr fp n k z t kn pl lf pn) := hD
  refine lv_if_ne (tgt := 11) hx hb dX2_spoil_6 (by decide) (fun c6 => ?_) (fun c6 => ?_)
  · have q6 := bI_n c6
    rw [Bool.and_eq_true] at q6
    obtain ⟨i, hi, rfl⟩ := ok_of (by omega) q6.1
    obtain ⟨j, hj, rfl⟩ := ok_of (n := 34) (by omega) q6.2
    refine lv_aload_n hx hb dX2_spoil_11 rfl (lv_at hl 0 rfl) ?_
    refine va_get (D := G.1) (ci := 2) (v := .ref (a 7)) (C := RX2) (T := TX2) (N := 14) hx hb hts hiX2 hown hK hP 0 rfl rfl 2 (by decide) lk23 (fun _ h9 => h9) rfl dX2_spoil_12 ?_
    refine lv_iload_n hx hb dX2_spoil_15 rfl (lv_at hl 1 rfl) ?_
    refine lv_bipush (v := nI 34) hx hb dX2_spoil_16 (by decide) ?_
    refine mu_N hx hb i 34 dX2_spoil_18 ?_
    refine lv_iload_n hx hb dX2_spoil_19 rfl (lv_at hl 2 rfl) ?_
    refine ad_N hx hb (i * 34) j dX2_spoil_20 ?_
    refine rd_i hx hb hK hP 7 rfl ((i * 34) + j) (by omega) (by omega) dX2_spoil_21 ?_
    refine lv_istore (lv' := [(4, .int (fc ((i * 34) + j))), (0, .ref (a 0)), (1, .int (nI i)), (2, .int (nI j)), (3, .int w)]) hx hb dX2_spoil_22 hl (by decide) rfl (fun ls hl => ?_)
    refine lv_aload_n hx hb dX2_spoil_24 rfl (lv_at hl 1 rfl) ?_
    refine va_get (D := G.1) (ci := 2) (v := .ref (a 7)) (C := RX2) (T := TX2) (N := 14) hx hb hts hiX2 hown hK hP 0 rfl rfl 2 (by decide) lk23 (fun _ h9 => h9) rfl dX2_spoil_25 ?_
    refine lv_iload_n hx hb dX2_spoil_28 rfl (lv_at hl 2 rfl) ?_
    refine lv_bipush (v := nI 34) hx hb dX2_spoil_29 (by decide) ?_
    refine mu_N hx hb i 34 dX2_spoil_31 ?_
    refine lv_iload_n hx hb dX2_spoil_32 rfl (lv_at hl 3 rfl) ?_
    refine ad_N hx hb (i * 34) j dX2_spoil_33 ?_
    refine lv_iload_n hx hb dX2_spoil_34 rfl (lv_at hl 4 rfl) ?_
    refine wr_i hx hb hK hP hD hS 7 rfl ((i * 34) + j) (by omega) (by omega) dX2_spoil_35 (fun H locs hP hD hS => ?_)
    have hP : va_P G.1 vwCl (wC G a fm fh fw fb (upd fc ((i * 34) + j) w) fd fr fp n k z t kn pl lf pn) H := hP
    have hD : va_D A (wC G a fm fh fw fb (upd fc ((i * 34) + j) w) fd fr fp n k z t kn pl lf pn) := hD
    refine lv_aload_n hx hb dX2_spoil_36 rfl (lv_at hl 1 rfl) ?_
    refine call_Vv (wr := ([] : va_W)) [] [] ⟨hx, hb, hml, hown, hts⟩ hK hX hA hP hD hS (c_forgetNonces l G _ a fm fh fw fb (upd fc ((i * 34) + j) w) fd fr fp n k z t kn pl lf pn  (by omega) (by omega) (by omega) (by omega) (by omega) (by omega) (by omega)) (cwV 0 hts gX2_spoil_X2_forgetNonces rfl rfl rfl (by decide +kernel) ⟨Nat.le_of_ble_eq_true rfl, Nat.le_of_ble_eq_true rfl⟩) 2 0 rfl rfl rfl [0, 1, 2, 3, 4, 5, 6, 7, 8, 9, 10] [] rfl rfl (by decide) (by decide) (by decide) rfl hl.1 (Nat.le_of_ble_eq_true rfl) dX2_spoil_37 ⟨Nat.zero_le _, Nat.zero_le _⟩ (fun u H locs hw hP hD hS => ?_)
    have hP : va_P G.1 vwCl (wC G a fm fh fw fb (upd fc ((i * 34) + j) w) fd fr fp n k z 0 (-1) pl lf pn) H := hP
    have hD : va_D A (wC G a fm fh fw fb (upd fc ((i * 34) + j) w) fd fr fp n k z 0 (-1) pl lf pn) := hD
    refine lv_iload hx hb dX2_spoil_40 (lv_at hl 0 rfl) ?_
    exact ret 42 _ _ _ (fc ((i * 34) + j)) (upd fc ((i * 34) + j) w, 0, (-1)) dX2_spoil_42 (Or.inr ⟨i, j, hi, hj, rfl, rfl, rfl, rfl, rfl, rfl⟩) hP hD hS
  · refine lv_iconst (v := nI 0) hx hb dX2_spoil_9 (by decide) ?_
    exact ret 10 _ _ _ (nI 0) (fc, t, kn) dX2_spoil_10 (Or.inl ⟨bI_z c6, rfl, rfl, rfl, rfl⟩) hP hD hS
set_option maxHeartbeats 4000000 in
set_option maxRecDepth 100000 in
theorem c_proof (l : Launch) (G : gG) (sz : Nat) (a : Nat → Nat) (fm fh fw fb fc fd fr fp : Nat → Int32) (n k z t : Nat) (kn : Int32) (pl lf pn : Nat) (x : Int32) (hn : n ≤ 60) (hk : k ≤ 8) (hz : z ≤ 20) (ht : t ≤ 100000) (hpl : pl ≤ 60) (hlf : lf ≤ 6) (hpn : pn ≤ 1560)  : MetI l yX2_proof wsX2_proof ({ frames := 0, cells := 0, slots := 0, locals := 0 } : Room) [.ref (a 0), .int x] G (wC G a fm fh fw fb fc fd fr fp n k z t kn pl lf pn) sz (fun _ : Unit => wC G a fm fh fw fb fc fd fr fp n k z t kn pl lf pn) (fun r _ => r = if p_ok x pn then fp (p_ix x) else nI 0) := by
  refine ent_i _ cX2_proof 2 RX2 (by decide) rfl rfl (Nat.le_of_ble_eq_true rfl) ?_
  intro p e s m args below meth c A Q ls hx hb hml hts hown hA hK hX ret hl hP hD hS
  have hl : lv_has ls 2 [(0, .ref (a 0)), (1, .int x)] := hl
  have lk33 := hts (.fieldLink RX2 33 "MinedLedger" "proofWords" "[I") (by decide +kernel)
  have lk67 := hts (.fieldLink RX2 67 "MinedLedger" "proofLength" "I") (by decide +kernel)
  have hiX2 : ∀ w ∈ wsX20, w ∈ wsX2_proof := by decide +kernel
  refine lv_iload_n hx hb dX2_proof_0 rfl (lv_at hl 1 rfl) ?_
  refine ifz_lt hx hb x 12 dX2_proof_1 (by decide) (fun c1 => ?_) (fun c1 => ?_)
  · refine lv_iconst (v := nI 0) hx hb dX2_proof_12 (by decide) ?_
    exact ret 13 _ _ _ (nI 0) () dX2_proof_13 (by rw [ok_F (Or.inl c1)]; rfl) hP hD hS
  · refine lv_iload_n hx hb dX2_proof_4 rfl (lv_at hl 1 rfl) ?_
    refine lv_aload_n hx hb dX2_proof_5 rfl (lv_at hl 0 rfl) ?_
    refine va_get (D := G.1) (ci := 2) (v := .int (nI pn)) (C := RX2) (T := TX2) (N := 14) hx hb hts hiX2 hown hK hP 0 rfl rfl 13 (by decide) lk67 (fun _ h9 => h9) rfl dX2_proof_6 ?_
    refine cmz_ltzn hx hb x pn 14 (by omega) dX2_proof_9 (by decide) (fun c9 => ?_) (fun c9 => ?_)
    · obtain ⟨j, hj, rfl⟩ := in_N (by omega) c1 c9
      refine lv_aload_n hx hb dX2_proof_14 rfl (lv_at hl 0 rfl) ?_
      refine va_get (D := G.1) (ci := 2) (v := .ref (a 10)) (C := RX2) (T := TX2) (N := 14) hx hb hts hiX2 hown hK hP 0 rfl rfl 5 (by decide) lk33 (fun _ h9 => h9) rfl dX2_proof_15 ?_
      refine lv_iload_n hx hb dX2_proof_18 rfl (lv_at hl 1 rfl) ?_
      refine rd_i hx hb hK hP 10 rfl j (by omega) (by omega) dX2_proof_19 ?_
      exact ret 20 _ _ _ (fp j) () dX2_proof_20 (by rw [ok_N (by omega), decide_eq_true hj, if_pos rfl, ix_N hj (by omega)]) hP hD hS
    · refine lv_iconst (v := nI 0) hx hb dX2_proof_12 (by decide) ?_
      exact ret 13 _ _ _ (nI 0) () dX2_proof_13 (by rw [ok_F (Or.inr c9)]; rfl) hP hD hS
set_option maxHeartbeats 4000000 in
set_option maxRecDepth 100000 in
theorem c_forge (l : Launch) (G : gG) (sz : Nat) (a : Nat → Nat) (fm fh fw fb fc fd fr fp : Nat → Int32) (n k z t : Nat) (kn : Int32) (pl lf pn : Nat) (x w : Int32) (hn : n ≤ 60) (hk : k ≤ 8) (hz : z ≤ 20) (ht : t ≤ 100000) (hpl : pl ≤ 60) (hlf : lf ≤ 6) (hpn : pn ≤ 1560)  : MetI l yX2_forge wsX2_forge ({ frames := 0, cells := 0, slots := 0, locals := 0 } : Room) [.ref (a 0), .int x, .int w] G (wC G a fm fh fw fb fc fd fr fp n k z t kn pl lf pn) sz (fun u : (Nat → Int32) => wC G a fm fh fw fb fc fd fr u n k z t kn pl lf pn) (fun r u => q_forge fp pn x w r u) := by
  refine ent_i _ cX2_forge 4 RX2 (by decide) rfl rfl (Nat.le_of_ble_eq_true rfl) ?_
  intro p e s m args below meth c A Q ls hx hb hml hts hown hA hK hX ret hl hP hD hS
  have hl : lv_has ls 4 [(0, .ref (a 0)), (1, .int x), (2, .int w)] := hl
  have lk33 := hts (.fieldLink RX2 33 "MinedLedger" "proofWords" "[I") (by decide +kernel)
  have lk67 := hts (.fieldLink RX2 67 "MinedLedger" "proofLength" "I") (by decide +kernel)
  have hiX2 : ∀ w ∈ wsX20, w ∈ wsX2_forge := by decide +kernel
  refine lv_iload_n hx hb dX2_forge_0 rfl (lv_at hl 1 rfl) ?_
  refine ifz_lt hx hb x 12 dX2_forge_1 (by decide) (fun c1 => ?_) (fun c1 => ?_)
  · refine lv_iconst (v := nI 0) hx hb dX2_forge_12 (by decide) ?_
    exact ret 13 _ _ _ (nI 0) fp dX2_forge_13 (Or.inl ⟨ok_F (Or.inl c1), rfl, rfl⟩) hP hD hS
  · refine lv_iload_n hx hb dX2_forge_4 rfl (lv_at hl 1 rfl) ?_
    refine lv_aload_n hx hb dX2_forge_5 rfl (lv_at hl 0 rfl) ?_
    refine va_get (D := G.1) (ci := 2) (v := .int (nI pn)) (C := RX2) (T := TX2) (N := 14) hx hb hts hiX2 hown hK hP 0 rfl rfl 13 (by decide) lk67 (fun _ h9 => h9) rfl dX2_forge_6 ?_
    refine cmz_ltzn hx hb x pn 14 (by omega) dX2_forge_9 (by decide) (fun c9 => ?_) (fun c9 => ?_)
    · obtain ⟨j, hj, rfl⟩ := in_N (by omega) c1 c9
      refine lv_aload_n hx hb dX2_forge_14 rfl (lv_at hl 0 rfl) ?_
      refine va_get (D := G.1) (ci := 2) (v := .ref (a 10)) (C := RX2) (T := TX2) (N := 14) hx hb hts hiX2 hown hK hP 0 rfl rfl 5 (by decide) lk33 (fun _ h9 => h9) rfl dX2_forge_15 ?_
      refine lv_iload_n hx hb dX2_forge_18 rfl (lv_at hl 1 rfl) ?_
      refine rd_i hx hb hK hP 10 rfl j (by omega) (by omega) dX2_forge_19 ?_
      refine lv_istore_n (lv' := [(3, .int (fp j)), (0, .ref (a 0)), (1, .int (nI j)), (2, .int w)]) hx hb dX2_forge_20 rfl hl (by decide) rfl (fun ls hl => ?_)
      refine lv_aload_n hx hb dX2_forge_21 rfl (lv_at hl 1 rfl) ?_
      refine va_get (D := G.1) (ci := 2) (v := .ref (a 10)) (C := RX2) (T := TX2) (N := 14) hx hb hts hiX2 hown hK hP 0 rfl rfl 5 (by decide) lk33 (fun _ h9 => h9) rfl dX2_forge_22 ?_
      refine lv_iload_n hx hb dX2_forge_25 rfl (lv_at hl 2 rfl) ?_
      refine lv_iload_n hx hb dX2_forge_26 rfl (lv_at hl 3 rfl) ?_
      refine wr_i hx hb hK hP hD hS 10 rfl j (by omega) (by omega) dX2_forge_27 (fun H locs hP hD hS => ?_)
      have hP : va_P G.1 vwCl (wC G a fm fh fw fb fc fd fr (upd fp j w) n k z t kn pl lf pn) H := hP
      have hD : va_D A (wC G a fm fh fw fb fc fd fr (upd fp j w) n k z t kn pl lf pn) := hD
      refine lv_iload_n hx hb dX2_forge_28 rfl (lv_at hl 0 rfl) ?_
      exact ret 29 _ _ _ (fp j) (upd fp j w) dX2_forge_29 (Or.inr ⟨j, hj, rfl, rfl, rfl⟩) hP hD hS
    · refine lv_iconst (v := nI 0) hx hb dX2_forge_12 (by decide) ?_
      exact ret 13 _ _ _ (nI 0) fp dX2_forge_13 (Or.inl ⟨ok_F (Or.inr c9), rfl, rfl⟩) hP hD hS
set_option maxHeartbeats 4000000 in
set_option maxRecDepth 100000 in
theorem c_stir (l : Launch) (G : gG) (sz : Nat) (a : Nat → Nat) (fm fh fw fb fc fd fr fp : Nat → Int32) (n k z t : Nat) (kn : Int32) (pl lf pn : Nat) (x y : Int32) (hn : n ≤ 60) (hk : k ≤ 8) (hz : z ≤ 20) (ht : t ≤ 100000) (hpl : pl ≤ 60) (hlf : lf ≤ 6) (hpn : pn ≤ 1560)  : MetI l yX2_stir wsX2_stir ({ frames := 2, cells := 0, slots := 0, locals := 44 } : Room) [.ref (a 0), .int x, .int y] G (wC G a fm fh fw fb fc fd fr fp n k z t kn pl lf pn) sz (fun _ : Unit => wC G a fm fh fw fb fc fd fr fp n k z t kn pl lf pn) (fun r _ => r = p_stir x y) := by
  refine ent_i _ cX2_stir 3 RX2 (by decide) rfl rfl (Nat.le_of_ble_eq_true rfl) ?_
  intro p e s m args below meth c A Q ls hx hb hml hts hown hA hK hX ret hl hP hD hS
  have hl : lv_has ls 3 [(0, .ref (a 0)), (1, .int x), (2, .int y)] := hl
  refine lv_iload_n hx hb dX2_stir_0 rfl (lv_at hl 1 rfl) ?_
  refine lv_iload_n hx hb dX2_stir_1 rfl (lv_at hl 2 rfl) ?_
  refine call_Si (wr := ([(a 0, .inr (2, [.ref (a 1), .ref (a 5), .ref (a 7), .ref (a 8), .ref (a 9), .ref (a 10), .int (nI n), .int (nI k), .int (nI z), .int (nI t), .int kn, .int (nI pl), .int (nI lf), .int (nI pn)])), (a 1, .inr (1, [.ref (a 2), .ref (a 3), .ref (a 4)])), (a 2, .inl (G.2.2.1, 8, .inl fm)), (a 3, .inl (G.2.2.1, 8, .inl fh)), (a 4, .inl (G.2.2.1, 64, .inl fw)), (a 5, .inr (0, [.ref (a 6)])), (a 6, .inl (G.2.2.1, 32, .inl fb)), (a 7, .inl (G.2.2.1, 2040, .inl fc)), (a 8, .inl (G.2.2.1, 8, .inl fd)), (a 9, .inl (G.2.2.1, 34, .inl fr)), (a 10, .inl (G.2.2.1, 1560, .inl fp))] : va_W)) [.int x, .int y] [] ⟨hx, hb, hml, hown, hts⟩ hK hX hA hP hD hS (c_stirred l G _ x y) (va_cwS 2 hts gX2_stir_X0_stirred rfl rfl rfl (by decide +kernel) ⟨Nat.le_of_ble_eq_true rfl, Nat.le_of_ble_eq_true rfl⟩) [] [0, 1, 2, 3, 4, 5, 6, 7, 8, 9, 10] rfl rfl (by decide) (by decide) (by decide) rfl hl.1 (Nat.le_of_ble_eq_true rfl) dX2_stir_2 ⟨Nat.zero_le _, Nat.zero_le _⟩ (fun r_1 u H locs hw hP hD hS => ?_)
  obtain rfl := hw
  have hP : va_P G.1 vwCl (wC G a fm fh fw fb fc fd fr fp n k z t kn pl lf pn) H := hP
  have hD : va_D A (wC G a fm fh fw fb fc fd fr fp n k z t kn pl lf pn) := hD
  exact ret 5 _ _ _ (p_stir x y) () dX2_stir_5 (rfl) hP hD hS
set_option maxHeartbeats 4000000 in
set_option maxRecDepth 100000 in
theorem c_may (l : Launch) (G : gG) (sz : Nat) (a : Nat → Nat) (fm fh fw fb fc fd fr fp : Nat → Int32) (n k z t : Nat) (kn : Int32) (pl lf pn : Nat) (x : Int32) (hn : n ≤ 60) (hk : k ≤ 8) (hz : z ≤ 20) (ht : t ≤ 100000) (hpl : pl ≤ 60) (hlf : lf ≤ 6) (hpn : pn ≤ 1560)  : MetI l yX2_may wsX2_may ({ frames := 4, cells := 0, slots := 0, locals := 88 } : Room) [.ref (a 0), .int x] G (wC G a fm fh fw fb fc fd fr fp n k z t kn pl lf pn) sz (fun _ : Unit => wC G a fm fh fw fb fc fd fr fp n k z t kn pl lf pn) (fun r _ => r = bI (allN (p_has fb x) 4)) := by
  refine ent_i _ cX2_may 2 RX2 (by decide) rfl rfl (Nat.le_of_ble_eq_true rfl) ?_
  intro p e s m args below meth c A Q ls hx hb hml hts hown hA hK hX ret hl hP hD hS
  have hl : lv_has ls 2 [(0, .ref (a 0)), (1, .int x)] := hl
  have lk19 := hts (.fieldLink RX2 19 "MinedLedger" "filter" "LMinedLedger$Filter;") (by decide +kernel)
  have hiX2 : ∀ w ∈ wsX20, w ∈ wsX2_may := by decide +kernel
  refine lv_aload_n hx hb dX2_may_0 rfl (lv_at hl 0 rfl) ?_
  refine va_get (D := G.1) (ci := 2) (v := .ref (a 5)) (C := RX2) (T := TX2) (N := 14) hx hb hts hiX2 hown hK hP 0 rfl rfl 1 (by decide) lk19 (fun _ h9 => h9) rfl dX2_may_1 ?_
  refine lv_iload_n hx hb dX2_may_4 rfl (lv_at hl 1 rfl) ?_
  refine call_Vi (wr := ([(a 0, .inr (2, [.ref (a 1), .ref (a 5), .ref (a 7), .ref (a 8), .ref (a 9), .ref (a 10), .int (nI n), .int (nI k), .int (nI z), .int (nI t), .int kn, .int (nI pl), .int (nI lf), .int (nI pn)])), (a 1, .inr (1, [.ref (a 2), .ref (a 3), .ref (a 4)])), (a 2, .inl (G.2.2.1, 8, .inl fm)), (a 3, .inl (G.2.2.1, 8, .inl fh)), (a 4, .inl (G.2.2.1, 64, .inl fw)), (a 7, .inl (G.2.2.1, 2040, .inl fc)), (a 8, .inl (G.2.2.1, 8, .inl fd)), (a 9, .inl (G.2.2.1, 34, .inl fr)), (a 10, .inl (G.2.2.1, 1560, .inl fp))] : va_W)) [.int x] [] ⟨hx, hb, hml, hown, hts⟩ hK hX hA hP hD hS (c_mayHave l G _ (a 5) (a 6) fb x) (cwV 1 hts gX2_may_X0_mayHave rfl rfl rfl (by decide +kernel) ⟨Nat.le_of_ble_eq_true rfl, Nat.le_of_ble_eq_true rfl⟩) 0 5 rfl rfl rfl [5, 6] [0, 1, 2, 3, 4, 7, 8, 9, 10] rfl rfl (by decide) (by decide) (by decide) rfl hl.1 (Nat.le_of_ble_eq_true rfl) dX2_may_5 ⟨Nat.zero_le _, Nat.zero_le _⟩ (fun r_1 u H locs hw hP hD hS => ?_)
  obtain rfl := hw
  have hP : va_P G.1 vwCl (wC G a fm fh fw fb fc fd fr fp n k z t kn pl lf pn) H := hP.sub [0, 1, 2, 3, 4, 9, 10, 5, 6, 7, 8] rfl
  have hD : va_D A (wC G a fm fh fw fb fc fd fr fp n k z t kn pl lf pn) := hD.sub [0, 1, 2, 3, 4, 9, 10, 5, 6, 7, 8] (by decide) rfl
  refine lv_if_eq (tgt := 15) hx hb dX2_may_8 (by decide) (fun c8 => ?_) (fun c8 => ?_)
  · refine lv_iconst (v := nI 0) hx hb dX2_may_15 (by decide) ?_
    exact ret 16 _ _ _ (nI 0) () dX2_may_16 (by rw [bI_z c8]; rfl) hP hD hS
  · refine lv_iconst (v := nI 1) hx hb dX2_may_11 (by decide) ?_
    refine lv_goto (tgt := 16) hx hb dX2_may_12 (by decide) ?_
    exact ret 16 _ _ _ (nI 1) () dX2_may_16 (by rw [bI_n c8]; rfl) hP hD hS
