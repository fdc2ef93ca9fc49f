/-! mine once more, with the bound of its number (q_mine and r_mine forgot it) -/
def q_mine2 (fc fr : Nat → Int32) (n k z t : Nat) (kn x r : Int32) (fr' : Nat → Int32) (t' : Nat) (kn' : Int32) : Prop :=
  ((x.toInt < 1 ∨ 3000 < x.toInt) ∧ r = (-2) ∧ fr' = fr ∧ t' = t ∧ kn' = kn) ∨
  ((1 ≤ x.toInt ∧ x.toInt ≤ 3000) ∧ ((¬ kn = (-1) ∧ r = kn ∧ fr' = fr ∧ t' = t ∧ kn' = kn) ∨ (kn = (-1) ∧ ((100000 ≤ t ∧ r = (-3) ∧ fr' = fr ∧ t' = t ∧ kn' = kn) ∨
    (t < 100000 ∧ ∃ q : Nat, q ≤ 3000 ∧ x = nI q ∧ q_try (p_drf fc fr n k z) z t (min q (100000 - t)) fr' t' kn' ∧ r = kn')))))
def r_mine2 (f : Nat → Int32) (z t : Nat) (kn x r : Int32) (t' : Nat) (kn' : Int32) : Prop :=
  ((x.toInt < 1 ∨ 3000 < x.toInt) ∧ r = (-2) ∧ t' = t ∧ kn' = kn) ∨
  ((1 ≤ x.toInt ∧ x.toInt ≤ 3000) ∧ ((0 ≤ kn.toInt ∧ r = kn ∧ t' = t ∧ kn' = kn) ∨ (kn.toInt < 0 ∧ ((t = 100000 ∧ r = (-3) ∧ t' = t ∧ kn' = kn) ∨ (t ≠ 100000 ∧ ∃ q : Nat, q ≤ 3000 ∧ x = nI q ∧ r_try f z t (min q (100000 - t)) t' kn' ∧ r = kn')))))
set_option maxHeartbeats 4000000 in
set_option maxRecDepth 100000 in
theorem c_mine2 (l : Launch) (G : gG) (sz : Nat) (a : Nat → Nat) (fm fh fw fb fc fd fr fp : Nat → Int32) (n k z t : Nat) (kn : Int32) (pl lf pn : Nat) (x : Int32) (hn : n ≤ 60) (hk : k ≤ 8) (hz : z ≤ 20) (ht : t ≤ 100000) (hpl : pl ≤ 60) (hlf : lf ≤ 6) (hpn : pn ≤ 1560)  : MetI l yX2_mine wsX2_mine ({ frames := 5, cells := 0, slots := 0, locals := 121 } : Room) [.ref (a 0), .int x] G (wC G a fm fh fw fb fc fd fr fp n k z t kn pl lf pn) sz (fun u : (Nat → Int32) × (Nat → Int32) × (Nat → Int32) × (Nat → Int32) × Nat × Int32 => wC G a u.1 u.2.1 u.2.2.1 fb fc fd u.2.2.2.1 fp n k z u.2.2.2.2.1 u.2.2.2.2.2 pl lf pn) (fun r u => q_mine2 fc fr n k z t kn x r u.2.2.2.1 u.2.2.2.2.1 u.2.2.2.2.2) := by
  refine ent_i _ cX2_mine 2 RX2 (by decide) rfl rfl (Nat.le_of_ble_eq_true rfl) ?_
  intro p e s m args below meth c A Q ls hx hb hml hts hown hA hK hX ret hl hP hD hS
  have hl : lv_has ls 2 [(0, .ref (a 0)), (1, .int x)] := hl
  have lk55 := hts (.fieldLink RX2 55 "MinedLedger" "triedCount" "I") (by decide +kernel)
  have lk58 := hts (.fieldLink RX2 58 "MinedLedger" "keptNonce" "I") (by decide +kernel)
  have hiX2 : ∀ w ∈ wsX20, w ∈ wsX2_mine := by decide +kernel
  refine lv_iload_n hx hb dX2_mine_0 rfl (lv_at hl 1 rfl) ?_
  refine lv_iconst (v := nI 1) hx hb dX2_mine_1 (by decide) ?_
  refine cmz_ltzn hx hb x 1 12 (by omega) dX2_mine_2 (by decide) (fun c2 => ?_) (fun c2 => ?_)
  · refine lv_bipush (v := (-2)) hx hb dX2_mine_12 (by decide) ?_
    exact ret 14 _ _ _ (-2) (fm, fh, fw, fr, t, kn) dX2_mine_14 (Or.inl ⟨Or.inl c2, rfl, rfl, rfl, rfl⟩) hP hD hS
  · refine lv_iload_n hx hb dX2_mine_5 rfl (lv_at hl 1 rfl) ?_
    refine lv_sipush (v := nI 3000) hx hb dX2_mine_6 (by decide) ?_
    refine cmz_lezn hx hb x 3000 15 (by omega) dX2_mine_9 (by decide) (fun c9 => ?_) (fun c9 => ?_)
    · refine lv_aload_n hx hb dX2_mine_15 rfl (lv_at hl 0 rfl) ?_
      refine va_get (D := G.1) (ci := 2) (v := .int kn) (C := RX2) (T := TX2) (N := 14) hx hb hts hiX2 hown hK hP 0 rfl rfl 10 (by decide) lk58 (fun _ h9 => h9) rfl dX2_mine_16 ?_
      refine lv_iconst (v := (-1)) hx hb dX2_mine_19 (by decide) ?_
      refine lv_icmp_eq (tgt := 28) hx hb dX2_mine_20 (by decide) (fun c20 => ?_) (fun c20 => ?_)
      · refine lv_aload_n hx hb dX2_mine_28 rfl (lv_at hl 0 rfl) ?_
        refine va_get (D := G.1) (ci := 2) (v := .int (nI t)) (C := RX2) (T := TX2) (N := 14) hx hb hts hiX2 hown hK hP 0 rfl rfl 9 (by decide) lk55 (fun _ h9 => h9) rfl dX2_mine_29 ?_
        refine lv_ldc (v := 100000) hx hb hown (hts (.constant RX2 77 (100000)) (by decide +kernel)) dX2_mine_32 ?_
        refine top_i (nI 100000) (by decide) ?_
        refine cmp_lt hx hb t 100000 40 (by omega) (by omega) dX2_mine_34 (by decide) (fun c34 => ?_) (fun c34 => ?_)
        · have hP : va_P G.1 vwCl (wC G a fm fh fw fb fc fd fr fp n k z t (-1) pl lf pn) s.heap := by rw [← c20]; exact hP
          have hD : va_D A (wC G a fm fh fw fb fc fd fr fp n k z t (-1) pl lf pn) := by rw [← c20]; exact hD
          obtain ⟨q, hq, rfl⟩ := of_nn (x := x) (by omega)
          rw [tI_N hq] at c2 c9
          refine lv_aload_n hx hb dX2_mine_40 rfl (lv_at hl 0 rfl) ?_
          refine call_Vv (wr := ([] : va_W)) [] [] ⟨hx, hb, hml, hown, hts⟩ hK hX hA hP hD hS (c_fillDraft l G _ a fm fh fw fb fc fd fr fp n k z t (-1) pl lf pn  (by omega) (by omega) (by omega) (by omega) (by omega) (by omega) (by omega)) (cwV 0 hts gX2_mine_X2_fillDraft rfl rfl rfl (by decide +kernel) ⟨Nat.le_of_ble_eq_true rfl, Nat.le_of_ble_eq_true rfl⟩) 2 0 rfl rfl rfl [0, 1, 2, 3, 4, 5, 6, 7, 8, 9, 10] [] rfl rfl (by decide) (by decide) (by decide) rfl hl.1 (Nat.le_of_ble_eq_true rfl) dX2_mine_41 ⟨Nat.zero_le _, Nat.zero_le _⟩ (fun u H locs hw hP hD hS => ?_)
          have hP : va_P G.1 vwCl (wC G a fm fh fw fb fc fd (p_drf fc fr n k z) fp n k z t (-1) pl lf pn) H := hP
          have hD : va_D A (wC G a fm fh fw fb fc fd (p_drf fc fr n k z) fp n k z t (-1) pl lf pn) := hD
          refine lv_aload_n hx hb dX2_mine_44 rfl (lv_at hl 0 rfl) ?_
          refine lv_iload_n hx hb dX2_mine_45 rfl (lv_at hl 1 rfl) ?_
          refine lv_ldc (v := 100000) hx hb hown (hts (.constant RX2 77 (100000)) (by decide +kernel)) dX2_mine_46 ?_
          refine top_i (nI 100000) (by decide) ?_
          refine lv_aload_n hx hb dX2_mine_48 rfl (lv_at hl 0 rfl) ?_
          refine va_get (D := G.1) (ci := 2) (v := .int (nI t)) (C := RX2) (T := TX2) (N := 14) hx hb hts hiX2 hown hK hP 0 rfl rfl 9 (by decide) lk55 (fun _ h9 => h9) rfl dX2_mine_49 ?_
          refine su_N hx hb 100000 t (by omega) dX2_mine_52 ?_
          refine va_mmin (x := nI q) (y := nI (100000 - t)) hx hb (by rw [hml]; exact hl.1.symm) hown (hts (.methodLink RX2 43 Lib.Math.min.name) (by decide +kernel)) (hts (.static Lib.Math.min.name) (by decide +kernel)) (hts (.initialized "java/lang/Math") (by decide +kernel)) (hts (.code Lib.Math.min.name Lib.Math.min.code 2 (some .int)) (by decide +kernel)) (Nat.le_of_ble_eq_true rfl) (Nat.le_of_ble_eq_true rfl) (Nat.zero_le _) (Nat.zero_le _) dX2_mine_53 ?_
          refine top_i (nI (min q (100000 - t))) (min_N (by omega) (by omega)) ?_
          refine call_Vv (wr := ([] : va_W)) [.int (nI (min q (100000 - t)))] [] ⟨hx, hb, hml, hown, hts⟩ hK hX hA hP hD hS (c_tryNonces l G _ a fm fh fw fb fc fd (p_drf fc fr n k z) fp n k z t pl lf pn (min q (100000 - t)) (by omega) (by omega) (by omega) (by omega) (by omega) (by omega) (by omega) (by omega)) (cwV 1 hts gX2_mine_X2_tryNonces rfl rfl rfl (by decide +kernel) ⟨Nat.le_of_ble_eq_true rfl, Nat.le_of_ble_eq_true rfl⟩) 2 0 rfl rfl rfl [0, 1, 2, 3, 4, 5, 6, 7, 8, 9, 10] [] rfl rfl (by decide) (by decide) (by decide) rfl hl.1 (Nat.le_of_ble_eq_true rfl) dX2_mine_56 ⟨Nat.zero_le _, Nat.zero_le _⟩ (fun u H locs hw hP hD hS => ?_)
          obtain ⟨mu_7, yu_7, wu_7, fu_7, tu_7, ku_7⟩ := u
          have hu_7 : q_try (p_drf fc fr n k z) z t (min q (100000 - t)) fu_7 tu_7 ku_7 := hw
          have hP : va_P G.1 vwCl (wC G a mu_7 yu_7 wu_7 fb fc fd fu_7 fp n k z tu_7 ku_7 pl lf pn) H := hP
          have hD : va_D A (wC G a mu_7 yu_7 wu_7 fb fc fd fu_7 fp n k z tu_7 ku_7 pl lf pn) := hD
          refine lv_aload_n hx hb dX2_mine_59 rfl (lv_at hl 0 rfl) ?_
          refine va_get (D := G.1) (ci := 2) (v := .int ku_7) (C := RX2) (T := TX2) (N := 14) hx hb hts hiX2 hown hK hP 0 rfl rfl 10 (by decide) lk58 (fun _ h9 => h9) rfl dX2_mine_60 ?_
          exact ret 63 _ _ _ ku_7 (mu_7, yu_7, wu_7, fu_7, tu_7, ku_7) dX2_mine_63 (Or.inr ⟨⟨by rw [tI_N hq]; exact c2, by rw [tI_N hq]; exact c9⟩, Or.inr ⟨c20, Or.inr ⟨c34, q, by omega, rfl, hu_7, rfl⟩⟩⟩) hP hD hS
        · refine lv_bipush (v := (-3)) hx hb dX2_mine_37 (by decide) ?_
          exact ret 39 _ _ _ (-3) (fm, fh, fw, fr, t, kn) dX2_mine_39 (Or.inr ⟨⟨c2, c9⟩, Or.inr ⟨c20, Or.inl ⟨c34, rfl, rfl, rfl, rfl⟩⟩⟩) hP hD hS
      · refine lv_aload_n hx hb dX2_mine_23 rfl (lv_at hl 0 rfl) ?_
        refine va_get (D := G.1) (ci := 2) (v := .int kn) (C := RX2) (T := TX2) (N := 14) hx hb hts hiX2 hown hK hP 0 rfl rfl 10 (by decide) lk58 (fun _ h9 => h9) rfl dX2_mine_24 ?_
        exact ret 27 _ _ _ kn (fm, fh, fw, fr, t, kn) dX2_mine_27 (Or.inr ⟨⟨c2, c9⟩, Or.inl ⟨c20, rfl, rfl, rfl, rfl⟩⟩) hP hD hS
    · refine lv_bipush (v := (-2)) hx hb dX2_mine_12 (by decide) ?_
      exact ret 14 _ _ _ (-2) (fm, fh, fw, fr, t, kn) dX2_mine_14 (Or.inl ⟨Or.inr c9, rfl, rfl, rfl, rfl⟩) hP hD hS
set_option maxHeartbeats 4000000 in
set_option maxRecDepth 100000 in
theorem m_mine2 (l : Launch) (G : gG) (sz : Nat) (b : Nat → Nat) (gc gd gw gf gp ga gb gh gg gx ge : Nat → Int32) (n k z t : Nat) (kn : Int32) (pl lf pn : Nat) (x : Int32) (hn : n ≤ 60) (hk : k ≤ 8) (hz : z ≤ 20) (ht : t ≤ 100000) (hpl : pl ≤ 60) (hlf : lf ≤ 6) (hpn : pn ≤ 1560) (hga : ∀ j, j < 64 → ga j = st_K j) (hgb : ∀ j, j < 8 → gb j = st_S j) (hkn : kn.toInt < 0 → kn = (-1)) : MetI l yX3_mine wsX3_mine ({ frames := 3, cells := 0, slots := 0, locals := 73 } : Room) [.ref (b 0), .int x] G (wMd G b gc gd gw gf gp ga gb gh gg gx ge n k z t kn pl lf pn) sz (fun u : (Nat → Int32) × (Nat → Int32) × (Nat → Int32) × (Nat → Int32) × Nat × Int32 => wMd G b gc gd gw gf gp ga gb u.1 u.2.1 u.2.2.1 u.2.2.2.1 n k z u.2.2.2.2.1 u.2.2.2.2.2 pl lf pn) (fun r u => (fun r _ _ _ _ t2 k2 => r_mine2 (p_F gc gw ge n k z) z t kn x r t2 k2) r u.1 u.2.1 u.2.2.1 u.2.2.2.1 u.2.2.2.2.1 u.2.2.2.2.2) := by
  refine ent_i _ cX3_mine 3 RX3 (by decide) rfl rfl (Nat.le_of_ble_eq_true rfl) ?_
  intro p e s m args below meth c A Q ls hx hb hml hts hown hA hK hX ret hl hP hD hS
  have hl : lv_has ls 3 [(0, .ref (b 0)), (1, .int x)] := hl
  have lk19 := hts (.fieldLink RX3 19 "MinedLedgerModel" "kept" "I") (by decide +kernel)
  have lk45 := hts (.fieldLink RX3 45 "MinedLedgerModel" "entry" "[I") (by decide +kernel)
  have lk48 := hts (.fieldLink RX3 48 "MinedLedgerModel" "difficulty" "I") (by decide +kernel)
  have lk153 := hts (.fieldLink RX3 153 "MinedLedgerModel" "tried" "I") (by decide +kernel)
  have hiX3 : ∀ w ∈ wsX30, w ∈ wsX3_mine := by decide +kernel
  refine lv_iload_n hx hb dX3_mine_0 rfl (lv_at hl 1 rfl) ?_
  refine lv_iconst (v := nI 1) hx hb dX3_mine_1 (by decide) ?_
  refine cmz_ltzn hx hb x 1 12 (by omega) dX3_mine_2 (by decide) (fun c2 => ?_) (fun c2 => ?_)
  · refine lv_bipush (v := (-2)) hx hb dX3_mine_12 (by decide) ?_
    exact ret 14 _ _ _ (-2) (gh, gg, gx, ge, t, kn) dX3_mine_14 (Or.inl ⟨Or.inl c2, rfl, rfl, rfl⟩) hP hD hS
  · refine lv_iload_n hx hb dX3_mine_5 rfl (lv_at hl 1 rfl) ?_
    refine lv_sipush (v := nI 3000) hx hb dX3_mine_6 (by decide) ?_
    refine cmz_lezn hx hb x 3000 15 (by omega) dX3_mine_9 (by decide) (fun c9 => ?_) (fun c9 => ?_)
    · refine lv_aload_n hx hb dX3_mine_15 rfl (lv_at hl 0 rfl) ?_
      refine va_get (D := G.1) (ci := 3) (v := .int kn) (C := RX3) (T := TX3) (N := 19) hx hb hts hiX3 hown hK hP 0 rfl rfl 7 (by decide) lk19 (fun _ h9 => h9) rfl dX3_mine_16 ?_
      refine ifz_lt hx hb kn 27 dX3_mine_19 (by decide) (fun c19 => ?_) (fun c19 => ?_)
      · refine lv_aload_n hx hb dX3_mine_27 rfl (lv_at hl 0 rfl) ?_
        refine va_get (D := G.1) (ci := 3) (v := .int (nI t)) (C := RX3) (T := TX3) (N := 19) hx hb hts hiX3 hown hK hP 0 rfl rfl 6 (by decide) lk153 (fun _ h9 => h9) rfl dX3_mine_28 ?_
        refine lv_ldc (v := 100000) hx hb hown (hts (.constant RX3 159 (100000)) (by decide +kernel)) dX3_mine_31 ?_
        refine top_i (nI 100000) (by decide) ?_
        refine cmp_ne hx hb t 100000 39 (by omega) (by omega) dX3_mine_33 (by decide) (fun c33 => ?_) (fun c33 => ?_)
        · have hk1 := hkn c19
          have hP : va_P G.1 vwCl (wMd G b gc gd gw gf gp ga gb gh gg gx ge n k z t (-1) pl lf pn) s.heap := by rw [← hk1]; exact hP
          have hD : va_D A (wMd G b gc gd gw gf gp ga gb gh gg gx ge n k z t (-1) pl lf pn) := by rw [← hk1]; exact hD
          obtain ⟨q, hq, rfl⟩ := of_nn (x := x) (by omega)
          rw [tI_N hq] at c2 c9
          refine lv_aload_n hx hb dX3_mine_39 rfl (lv_at hl 0 rfl) ?_
          refine call_Vv (wr := ([] : va_W)) [] [] ⟨hx, hb, hml, hown, hts⟩ hK hX hA hP hD hS (m_draft l G _ b gc gd gw gf gp ga gb gh gg gx ge n k z t (-1) pl lf pn  (by omega) (by omega) (by omega) (by omega) (by omega) (by omega) (by omega) hga hgb) (cwV 0 hts gX3_mine_X3_draft rfl rfl rfl (by decide +kernel) ⟨Nat.le_of_ble_eq_true rfl, Nat.le_of_ble_eq_true rfl⟩) 3 0 rfl rfl rfl [0, 1, 2, 3, 4, 5, 6, 7, 8, 9, 10, 11] [] rfl rfl (by decide) (by decide) (by decide) rfl hl.1 (Nat.le_of_ble_eq_true rfl) dX3_mine_40 ⟨Nat.zero_le _, Nat.zero_le _⟩ (fun u H locs hw hP hD hS => ?_)
          have hP : va_P G.1 vwCl (wMd G b gc gd gw gf gp ga gb gh gg gx (p_F gc gw ge n k z) n k z t (-1) pl lf pn) H := hP
          have hD : va_D A (wMd G b gc gd gw gf gp ga gb gh gg gx (p_F gc gw ge n k z) n k z t (-1) pl lf pn) := hD
          obtain ⟨F, hF⟩ : ∃ F, F = p_F gc gw ge n k z := ⟨_, rfl⟩
          rw [← hF] at hP hD
          have hP : va_P G.1 vwCl (wMd G b gc gd gw gf gp ga gb gh gg gx F n k z t (-1) pl lf pn) H := hP
          have hD : va_D A (wMd G b gc gd gw gf gp ga gb gh gg gx F n k z t (-1) pl lf pn) := hD
          refine lv_aload_n hx hb dX3_mine_43 rfl (lv_at hl 0 rfl) ?_
          refine call_Vv (wr := ([] : va_W)) [] [] ⟨hx, hb, hml, hown, hts⟩ hK hX hA hP hD hS (m_mixFirst l G _ b gc gd gw gf gp ga gb gh gg gx F n k z t (-1) pl lf pn  (by omega) (by omega) (by omega) (by omega) (by omega) (by omega) (by omega) hga hgb) (cwV 0 hts gX3_mine_X3_mixFirst rfl rfl rfl (by decide +kernel) ⟨Nat.le_of_ble_eq_true rfl, Nat.le_of_ble_eq_true rfl⟩) 3 0 rfl rfl rfl [0, 1, 2, 3, 4, 5, 6, 7, 8, 9, 10, 11] [] rfl rfl (by decide) (by decide) (by decide) rfl hl.1 (Nat.le_of_ble_eq_true rfl) dX3_mine_44 ⟨Nat.zero_le _, Nat.zero_le _⟩ (fun u H locs hw hP hD hS => ?_)
          obtain ⟨hu_7, gu_7, xu_7⟩ := u
          have qu_7 : ∀ j, j < 8 → gu_7 j = p_h1 F 0 j := hw
          have hP : va_P G.1 vwCl (wMd G b gc gd gw gf gp ga gb hu_7 gu_7 xu_7 F n k z t (-1) pl lf pn) H := hP
          have hD : va_D A (wMd G b gc gd gw gf gp ga gb hu_7 gu_7 xu_7 F n k z t (-1) pl lf pn) := hD
          refine lv_iconst (v := nI 0) hx hb dX3_mine_47 (by decide) ?_
          refine lv_istore_n (lv' := [(2, .int (nI 0)), (0, .ref (b 0)), (1, .int (nI q))]) hx hb dX3_mine_48 rfl hl (by decide) rfl (fun ls hl => ?_)
          suffices hloop1 : ∀ (fu1 : Nat) (i : Nat) (hh : Nat → Int32) (xx : Nat → Int32) (ee : Nat → Int32) (tt : Nat) (kk : Int32), (i ≤ q) → (tt ≤ 100000) → ((kk = (-1) ∧ tt = t + i ∧ (∀ j, j < 25 → ee j = F j) ∧ ∀ j, t ≤ j → j < t + i → p_nz F j < z) ∨ (∃ v : Nat, t ≤ v ∧ v < t + q ∧ v < 100000 ∧ (∀ j, t ≤ j → j < v → p_nz F j < z) ∧ z ≤ p_nz F v ∧ kk = nI v ∧ tt = v + 1)) → q - i < fu1 → ∀ (H : Heap) (locs : List Loc) (ls : Array Slot), va_P G.1 vwCl (wMd G b gc gd gw gf gp ga gb hh gu_7 xx ee n k z tt kk pl lf pn) H → va_D A (wMd G b gc gd gw gf gp ga gb hh gu_7 xx ee n k z tt kk pl lf pn) → va_S A s.heap H locs → lv_has ls 3 [(0, .ref (b 0)), (1, .int (nI q)), (2, .int (nI i))] → W p l e ({ frames := 3, cells := 0, slots := 0, locals := 73 } : Room) s m args below meth c H locs 0 0 Q (F0 m 49 ls []) from hloop1 _ 0 hu_7 xu_7 F t (-1) (Nat.zero_le _) ht (Or.inl ⟨rfl, rfl, fun _ _ => rfl, fun j h1 h2 => by omega⟩) (Nat.lt_succ_self _) _ _ _ hP hD hS (lv_sub hl [1, 2, 0] rfl)
          clear hP hD hS hl
          intro fu1
          induction fu1 with
          | zero => intro i hh xx ee tt kk hi htt hI hfu; exact absurd hfu (Nat.not_lt_zero _)
          | succ fu1 ih1 =>
            intro i hh xx ee tt kk hi htt hI hfu1 H locs ls hP hD hS hl
            refine lv_iload_n hx hb dX3_mine_49 rfl (lv_at hl 2 rfl) ?_
            refine lv_iload_n hx hb dX3_mine_50 rfl (lv_at hl 1 rfl) ?_
            refine cmp_ge hx hb i q 124 (by omega) (by omega) dX3_mine_51 (by decide) (fun c51 => ?_) (fun c51 => ?_)
            · refine lv_aload_n hx hb dX3_mine_124 rfl (lv_at hl 0 rfl) ?_
              refine va_get (D := G.1) (ci := 3) (v := .int kk) (C := RX3) (T := TX3) (N := 19) hx hb hts hiX3 hown hK hP 0 rfl rfl 7 (by decide) lk19 (fun _ h9 => h9) rfl dX3_mine_125 ?_
              have hrt : r_try F z t (min q (100000 - t)) tt kk := by
                rcases hI with ⟨h1, h2, h3, h4⟩ | ⟨v, g1, g2, g3, g4, g5, g6, g7⟩
                · exact Or.inl ⟨h1, by omega, fun j a1 a2 => h4 j a1 (by omega)⟩
                · exact Or.inr ⟨v, g1, by omega, g4, g5, g6, g7⟩
              exact ret 128 _ _ _ kk (hh, gu_7, xx, ee, tt, kk) dX3_mine_128 (Or.inr ⟨⟨by rw [tI_N hq]; exact c2, by rw [tI_N hq]; exact c9⟩, Or.inr ⟨c19, Or.inr ⟨c33, q, by omega, rfl, by rw [← hF]; exact hrt, rfl⟩⟩⟩) hP hD hS
            · refine lv_aload_n hx hb dX3_mine_54 rfl (lv_at hl 0 rfl) ?_
              refine va_get (D := G.1) (ci := 3) (v := .int (nI tt)) (C := RX3) (T := TX3) (N := 19) hx hb hts hiX3 hown hK hP 0 rfl rfl 6 (by decide) lk153 (fun _ h9 => h9) rfl dX3_mine_55 ?_
              refine lv_ldc (v := 100000) hx hb hown (hts (.constant RX3 159 (100000)) (by decide +kernel)) dX3_mine_58 ?_
              refine top_i (nI 100000) (by decide) ?_
              refine cmp_ge hx hb tt 100000 124 (by omega) (by omega) dX3_mine_60 (by decide) (fun c60 => ?_) (fun c60 => ?_)
              · refine lv_aload_n hx hb dX3_mine_124 rfl (lv_at hl 0 rfl) ?_
                refine va_get (D := G.1) (ci := 3) (v := .int kk) (C := RX3) (T := TX3) (N := 19) hx hb hts hiX3 hown hK hP 0 rfl rfl 7 (by decide) lk19 (fun _ h9 => h9) rfl dX3_mine_125 ?_
                have hrt : r_try F z t (min q (100000 - t)) tt kk := by
                  rcases hI with ⟨h1, h2, h3, h4⟩ | ⟨v, g1, g2, g3, g4, g5, g6, g7⟩
                  · exact Or.inl ⟨h1, by omega, fun j a1 a2 => h4 j a1 (by omega)⟩
                  · exact Or.inr ⟨v, g1, by omega, g4, g5, g6, g7⟩
                exact ret 128 _ _ _ kk (hh, gu_7, xx, ee, tt, kk) dX3_mine_128 (Or.inr ⟨⟨by rw [tI_N hq]; exact c2, by rw [tI_N hq]; exact c9⟩, Or.inr ⟨c19, Or.inr ⟨c33, q, by omega, rfl, by rw [← hF]; exact hrt, rfl⟩⟩⟩) hP hD hS
              · refine lv_aload_n hx hb dX3_mine_63 rfl (lv_at hl 0 rfl) ?_
                refine va_get (D := G.1) (ci := 3) (v := .int kk) (C := RX3) (T := TX3) (N := 19) hx hb hts hiX3 hown hK hP 0 rfl rfl 7 (by decide) lk19 (fun _ h9 => h9) rfl dX3_mine_64 ?_
                refine ifz_ge hx hb kk 124 dX3_mine_67 (by decide) (fun c67 => ?_) (fun c67 => ?_)
                · refine lv_aload_n hx hb dX3_mine_124 rfl (lv_at hl 0 rfl) ?_
                  refine va_get (D := G.1) (ci := 3) (v := .int kk) (C := RX3) (T := TX3) (N := 19) hx hb hts hiX3 hown hK hP 0 rfl rfl 7 (by decide) lk19 (fun _ h9 => h9) rfl dX3_mine_125 ?_
                  have hrt : r_try F z t (min q (100000 - t)) tt kk := by
                    rcases hI with ⟨h1, h2, h3, h4⟩ | ⟨v, g1, g2, g3, g4, g5, g6, g7⟩
                    · rw [h1] at c67; exact absurd c67 (by decide)
                    · exact Or.inr ⟨v, g1, by omega, g4, g5, g6, g7⟩
                  exact ret 128 _ _ _ kk (hh, gu_7, xx, ee, tt, kk) dX3_mine_128 (Or.inr ⟨⟨by rw [tI_N hq]; exact c2, by rw [tI_N hq]; exact c9⟩, Or.inr ⟨c19, Or.inr ⟨c33, q, by omega, rfl, by rw [← hF]; exact hrt, rfl⟩⟩⟩) hP hD hS
                · obtain ⟨ek, e1, e2, e3⟩ : kk = (-1) ∧ tt = t + i ∧ (∀ j, j < 25 → ee j = F j) ∧ (∀ j, t ≤ j → j < t + i → p_nz F j < z) := by
                    rcases hI with h | ⟨v, g1, g2, g3, g4, g5, g6, g7⟩
                    · exact h
                    · rw [g6, tI_N (by omega)] at c67; omega
                  clear hI
                  subst e1
                  subst ek
                  have hP : va_P G.1 vwCl (wMd G b gc gd gw gf gp ga gb hh gu_7 xx ee n k z (t + i) (-1) pl lf pn) H := hP
                  have hD : va_D A (wMd G b gc gd gw gf gp ga gb hh gu_7 xx ee n k z (t + i) (-1) pl lf pn) := hD
                  refine lv_aload_n hx hb dX3_mine_70 rfl (lv_at hl 0 rfl) ?_
                  refine va_get (D := G.1) (ci := 3) (v := .ref (b 11)) (C := RX3) (T := TX3) (N := 19) hx hb hts hiX3 hown hK hP 0 rfl rfl 18 (by decide) lk45 (fun _ h9 => h9) rfl dX3_mine_71 ?_
                  refine lv_bipush (v := nI 25) hx hb dX3_mine_74 (by decide) ?_
                  refine lv_aload_n hx hb dX3_mine_76 rfl (lv_at hl 0 rfl) ?_
                  refine va_get (D := G.1) (ci := 3) (v := .int (nI (t + i))) (C := RX3) (T := TX3) (N := 19) hx hb hts hiX3 hown hK hP 0 rfl rfl 6 (by decide) lk153 (fun _ h9 => h9) rfl dX3_mine_77 ?_
                  refine wr_i hx hb hK hP hD hS 11 rfl 25 (by omega) (by omega) dX3_mine_80 (fun H locs hP hD hS => ?_)
                  have hP : va_P G.1 vwCl (wMd G b gc gd gw gf gp ga gb hh gu_7 xx (upd ee 25 (nI (t + i))) n k z (t + i) (-1) pl lf pn) H := hP
                  have hD : va_D A (wMd G b gc gd gw gf gp ga gb hh gu_7 xx (upd ee 25 (nI (t + i))) n k z (t + i) (-1) pl lf pn) := hD
                  refine lv_aload_n hx hb dX3_mine_81 rfl (lv_at hl 0 rfl) ?_
                  refine call_Vv (wr := ([] : va_W)) [] [] ⟨hx, hb, hml, hown, hts⟩ hK hX hA hP hD hS (m_mixSecond l G _ b gc gd gw gf gp ga gb hh gu_7 xx (upd ee 25 (nI (t + i))) n k z (t + i) (-1) pl lf pn  (by omega) (by omega) (by omega) (by omega) (by omega) (by omega) (by omega) hga hgb) (cwV 0 hts gX3_mine_X3_mixSecond rfl rfl rfl (by decide +kernel) ⟨Nat.le_of_ble_eq_true rfl, Nat.le_of_ble_eq_true rfl⟩) 3 0 rfl rfl rfl [0, 1, 2, 3, 4, 5, 6, 7, 8, 9, 10, 11] [] rfl rfl (by decide) (by decide) (by decide) rfl hl.1 (Nat.le_of_ble_eq_true rfl) dX3_mine_82 ⟨Nat.zero_le _, Nat.zero_le _⟩ (fun u H locs hw hP hD hS => ?_)
                  obtain ⟨hu_12, xu_12⟩ := u
                  have qu_12 : ∀ j, j < 8 → hu_12 j = p_mix gu_7 (p_b2 (upd ee 25 (nI (t + i))) 0) j := hw
                  have hP : va_P G.1 vwCl (wMd G b gc gd gw gf gp ga gb hu_12 gu_7 xu_12 (upd ee 25 (nI (t + i))) n k z (t + i) (-1) pl lf pn) H := hP
                  have hD : va_D A (wMd G b gc gd gw gf gp ga gb hu_12 gu_7 xu_12 (upd ee 25 (nI (t + i))) n k z (t + i) (-1) pl lf pn) := hD
                  refine lv_aload_n hx hb dX3_mine_85 rfl (lv_at hl 0 rfl) ?_
                  refine lv_aload_n hx hb dX3_mine_86 rfl (lv_at hl 0 rfl) ?_
                  refine call_Vi (wr := ([] : va_W)) [] [.ref (b 0)] ⟨hx, hb, hml, hown, hts⟩ hK hX hA hP hD hS (m_zeros l G _ b gc gd gw gf gp ga gb hu_12 gu_7 xu_12 (upd ee 25 (nI (t + i))) n k z (t + i) (-1) pl lf pn  (by omega) (by omega) (by omega) (by omega) (by omega) (by omega) (by omega) hga hgb) (cwV 0 hts gX3_mine_X3_zeros rfl rfl rfl (by decide +kernel) ⟨Nat.le_of_ble_eq_true rfl, Nat.le_of_ble_eq_true rfl⟩) 3 0 rfl rfl rfl [0, 1, 2, 3, 4, 5, 6, 7, 8, 9, 10, 11] [] rfl rfl (by decide) (by decide) (by decide) rfl hl.1 (Nat.le_of_ble_eq_true rfl) dX3_mine_87 ⟨Nat.zero_le _, Nat.zero_le _⟩ (fun r_13 u H locs hw hP hD hS => ?_)
                  obtain rfl := hw
                  have hP : va_P G.1 vwCl (wMd G b gc gd gw gf gp ga gb hu_12 gu_7 xu_12 (upd ee 25 (nI (t + i))) n k z (t + i) (-1) pl lf pn) H := hP
                  have hD : va_D A (wMd G b gc gd gw gf gp ga gb hu_12 gu_7 xu_12 (upd ee 25 (nI (t + i))) n k z (t + i) (-1) pl lf pn) := hD
                  have hz2 : p_zeros hu_12 = p_nz F (t + i) := p_zeros_congr (fun j hj => (qu_12 j hj).trans (nz_eq (nI (t + i)) qu_7 e2 j hj))
                  have hzl := p_zeros_le hu_12
                  refine lv_aload_n hx hb dX3_mine_90 rfl (lv_at hl 0 rfl) ?_
                  refine va_get (D := G.1) (ci := 3) (v := .int (nI z)) (C := RX3) (T := TX3) (N := 19) hx hb hts hiX3 hown hK hP 0 rfl rfl 5 (by decide) lk48 (fun _ h9 => h9) rfl dX3_mine_91 ?_
                  refine cmp_lt hx hb (p_zeros hu_12) z 104 (by omega) (by omega) dX3_mine_94 (by decide) (fun c94 => ?_) (fun c94 => ?_)
                  · refine lv_iconst (v := (-1)) hx hb dX3_mine_104 (by decide) ?_
                    refine va_put (D := G.1) (ci := 3) (v := .int (-1)) (ty := .int) (C := RX3) (T := TX3) (N := 19) hx hb hts hiX3 tyX3 tyX3_ok nmX3 hown hK hP hD hS 0 rfl rfl 7 (by decide) lk19 (fun _ h9 => h9) rfl (by decide +kernel) rfl rfl (Nat.le_of_ble_eq_true rfl) dX3_mine_105 (fun H locs hP hD hS => ?_)
                    have hP : va_P G.1 vwCl (wMd G b gc gd gw gf gp ga gb hu_12 gu_7 xu_12 (upd ee 25 (nI (t + i))) n k z (t + i) (-1) pl lf pn) H := hP
                    have hD : va_D A (wMd G b gc gd gw gf gp ga gb hu_12 gu_7 xu_12 (upd ee 25 (nI (t + i))) n k z (t + i) (-1) pl lf pn) := hD
                    refine lv_aload_n hx hb dX3_mine_108 rfl (lv_at hl 0 rfl) ?_
                    refine lv_dup hx hb dX3_mine_109 rfl ?_
                    refine va_get (D := G.1) (ci := 3) (v := .int (nI (t + i))) (C := RX3) (T := TX3) (N := 19) hx hb hts hiX3 hown hK hP 0 rfl rfl 6 (by decide) lk153 (fun _ h9 => h9) rfl dX3_mine_110 ?_
                    refine lv_iconst (v := nI 1) hx hb dX3_mine_113 (by decide) ?_
                    refine ad_N hx hb (t + i) 1 dX3_mine_114 ?_
                    refine va_put (D := G.1) (ci := 3) (v := .int (nI ((t + i) + 1))) (ty := .int) (C := RX3) (T := TX3) (N := 19) hx hb hts hiX3 tyX3 tyX3_ok nmX3 hown hK hP hD hS 0 rfl rfl 6 (by decide) lk153 (fun _ h9 => h9) rfl (by decide +kernel) rfl rfl (Nat.le_of_ble_eq_true rfl) dX3_mine_115 (fun H locs hP hD hS => ?_)
                    have hP : va_P G.1 vwCl (wMd G b gc gd gw gf gp ga gb hu_12 gu_7 xu_12 (upd ee 25 (nI (t + i))) n k z ((t + i) + 1) (-1) pl lf pn) H := hP
                    have hD : va_D A (wMd G b gc gd gw gf gp ga gb hu_12 gu_7 xu_12 (upd ee 25 (nI (t + i))) n k z ((t + i) + 1) (-1) pl lf pn) := hD
                    refine lv_iinc (v := nI (i + 1)) (lv' := [(2, .int (nI (i + 1))), (0, .ref (b 0)), (1, .int (nI q))]) hx hb dX3_mine_118 hl (k := 2) rfl (inc_N i 1) (by decide) rfl (fun ls hl => ?_)
                    refine lv_goto (tgt := 49) hx hb dX3_mine_121 (by decide) ?_
                    exact ih1 (i + 1) hu_12 xu_12 (upd ee 25 (nI (t + i))) (t + i + 1) (-1) (by omega) (by omega) (Or.inl ⟨rfl, by omega, fun j hj => by rw [pk_un (by omega)]; exact e2 j hj, fun j a1 a2 => by rcases Nat.lt_or_ge j (t + i) with q1 | q1; exact e3 j a1 q1; rw [show j = t + i by omega, ← hz2]; exact c94⟩) (by omega) _ _ _ hP hD hS (lv_sub hl [1, 2, 0] rfl)
                  · refine lv_aload_n hx hb dX3_mine_97 rfl (lv_at hl 0 rfl) ?_
                    refine va_get (D := G.1) (ci := 3) (v := .int (nI (t + i))) (C := RX3) (T := TX3) (N := 19) hx hb hts hiX3 hown hK hP 0 rfl rfl 6 (by decide) lk153 (fun _ h9 => h9) rfl dX3_mine_98 ?_
                    refine lv_goto (tgt := 105) hx hb dX3_mine_101 (by decide) ?_
                    refine va_put (D := G.1) (ci := 3) (v := .int (nI (t + i))) (ty := .int) (C := RX3) (T := TX3) (N := 19) hx hb hts hiX3 tyX3 tyX3_ok nmX3 hown hK hP hD hS 0 rfl rfl 7 (by decide) lk19 (fun _ h9 => h9) rfl (by decide +kernel) rfl rfl (Nat.le_of_ble_eq_true rfl) dX3_mine_105 (fun H locs hP hD hS => ?_)
                    have hP : va_P G.1 vwCl (wMd G b gc gd gw gf gp ga gb hu_12 gu_7 xu_12 (upd ee 25 (nI (t + i))) n k z (t + i) (nI (t + i)) pl lf pn) H := hP
                    have hD : va_D A (wMd G b gc gd gw gf gp ga gb hu_12 gu_7 xu_12 (upd ee 25 (nI (t + i))) n k z (t + i) (nI (t + i)) pl lf pn) := hD
                    refine lv_aload_n hx hb dX3_mine_108 rfl (lv_at hl 0 rfl) ?_
                    refine lv_dup hx hb dX3_mine_109 rfl ?_
                    refine va_get (D := G.1) (ci := 3) (v := .int (nI (t + i))) (C := RX3) (T := TX3) (N := 19) hx hb hts hiX3 hown hK hP 0 rfl rfl 6 (by decide) lk153 (fun _ h9 => h9) rfl dX3_mine_110 ?_
                    refine lv_iconst (v := nI 1) hx hb dX3_mine_113 (by decide) ?_
                    refine ad_N hx hb (t + i) 1 dX3_mine_114 ?_
                    refine va_put (D := G.1) (ci := 3) (v := .int (nI ((t + i) + 1))) (ty := .int) (C := RX3) (T := TX3) (N := 19) hx hb hts hiX3 tyX3 tyX3_ok nmX3 hown hK hP hD hS 0 rfl rfl 6 (by decide) lk153 (fun _ h9 => h9) rfl (by decide +kernel) rfl rfl (Nat.le_of_ble_eq_true rfl) dX3_mine_115 (fun H locs hP hD hS => ?_)
                    have hP : va_P G.1 vwCl (wMd G b gc gd gw gf gp ga gb hu_12 gu_7 xu_12 (upd ee 25 (nI (t + i))) n k z ((t + i) + 1) (nI (t + i)) pl lf pn) H := hP
                    have hD : va_D A (wMd G b gc gd gw gf gp ga gb hu_12 gu_7 xu_12 (upd ee 25 (nI (t + i))) n k z ((t + i) + 1) (nI (t + i)) pl lf pn) := hD
                    refine lv_iinc (v := nI (i + 1)) (lv' := [(2, .int (nI (i + 1))), (0, .ref (b 0)), (1, .int (nI q))]) hx hb dX3_mine_118 hl (k := 2) rfl (inc_N i 1) (by decide) rfl (fun ls hl => ?_)
                    refine lv_goto (tgt := 49) hx hb dX3_mine_121 (by decide) ?_
                    exact ih1 (i + 1) hu_12 xu_12 (upd ee 25 (nI (t + i))) (t + i + 1) (nI (t + i)) (by omega) (by omega) (Or.inr ⟨t + i, by omega, by omega, by omega, e3, by rw [← hz2]; exact c94, rfl, rfl⟩) (by omega) _ _ _ hP hD hS (lv_sub hl [1, 2, 0] rfl)
        · refine lv_bipush (v := (-3)) hx hb dX3_mine_36 (by decide) ?_
          exact ret 38 _ _ _ (-3) (gh, gg, gx, ge, t, kn) dX3_mine_38 (Or.inr ⟨⟨c2, c9⟩, Or.inr ⟨c19, Or.inl ⟨c33, rfl, rfl, rfl⟩⟩⟩) hP hD hS
      · refine lv_aload_n hx hb dX3_mine_22 rfl (lv_at hl 0 rfl) ?_
        refine va_get (D := G.1) (ci := 3) (v := .int kn) (C := RX3) (T := TX3) (N := 19) hx hb hts hiX3 hown hK hP 0 rfl rfl 7 (by decide) lk19 (fun _ h9 => h9) rfl dX3_mine_23 ?_
        exact ret 26 _ _ _ kn (gh, gg, gx, ge, t, kn) dX3_mine_26 (Or.inr ⟨⟨c2, c9⟩, Or.inl ⟨c19, rfl, rfl, rfl⟩⟩) hP hD hS
    · refine lv_bipush (v := (-2)) hx hb dX3_mine_12 (by decide) ?_
      exact ret 14 _ _ _ (-2) (gh, gg, gx, ge, t, kn) dX3_mine_14 (Or.inl ⟨Or.inr c9, rfl, rfl, rfl⟩) hP hD hS
