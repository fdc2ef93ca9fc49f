set_option maxHeartbeats 4000000 in
set_option maxRecDepth 100000 in
theorem m_commit (l : Launch) (G : gG) (sz : Nat) (b : Nat → Nat) (gc gd gw gf gp ga gb gh gg gx ge : Nat → Int32) (n k z t : Nat) (kn : Int32) (pl lf pn : Nat)  (hn : n ≤ 60) (hk : k ≤ 8) (hz : z ≤ 20) (ht : t ≤ 100000) (hpl : pl ≤ 60) (hlf : lf ≤ 6) (hpn : pn ≤ 1560) (hga : ∀ j, j < 64 → ga j = st_K j) (hgb : ∀ j, j < 8 → gb j = st_S j)  : MetI l yX3_commit wsX3_commit ({ frames := 4, cells := 0, slots := 0, locals := 90 } : Room) [.ref (b 0)] G (wMd G b gc gd gw gf gp ga gb gh gg gx ge n k z t kn pl lf pn) sz (fun u : (Nat → Int32) × (Nat → Int32) × (Nat → Int32) × (Nat → Int32) × (Nat → Int32) × (Nat → Int32) × (Nat → Int32) × Nat × Nat × Nat × Int32 => wMd G b u.1 u.2.1 gw u.2.2.1 gp ga gb u.2.2.2.1 u.2.2.2.2.1 u.2.2.2.2.2.1 u.2.2.2.2.2.2.1 u.2.2.2.2.2.2.2.1 u.2.2.2.2.2.2.2.2.1 z u.2.2.2.2.2.2.2.2.2.1 u.2.2.2.2.2.2.2.2.2.2 pl lf pn) (fun r u => (fun r c2 d2 f2 _ _ _ _ n2 k2 t2 kn2 => r_commit gc gd gw gf ge n k z t kn r c2 d2 f2 n2 k2 t2 kn2) r u.1 u.2.1 u.2.2.1 u.2.2.2.1 u.2.2.2.2.1 u.2.2.2.2.2.1 u.2.2.2.2.2.2.1 u.2.2.2.2.2.2.2.1 u.2.2.2.2.2.2.2.2.1 u.2.2.2.2.2.2.2.2.2.1 u.2.2.2.2.2.2.2.2.2.2) := by
  refine ent_i _ cX3_commit 2 RX3 (by decide) rfl rfl (Nat.le_of_ble_eq_true rfl) ?_
  intro p e s m args below meth c A Q ls hx hb hml hts hown hA hK hX ret hl hP hD hS
  have hl : lv_has ls 2 [(0, .ref (b 0))] := hl
  have lk7 := hts (.fieldLink RX3 7 "MinedLedgerModel" "cells" "[I") (by decide +kernel)
  have lk13 := hts (.fieldLink RX3 13 "MinedLedgerModel" "head" "[I") (by decide +kernel)
  have lk19 := hts (.fieldLink RX3 19 "MinedLedgerModel" "kept" "I") (by decide +kernel)
  have lk36 := hts (.fieldLink RX3 36 "MinedLedgerModel" "h" "[I") (by decide +kernel)
  have lk45 := hts (.fieldLink RX3 45 "MinedLedgerModel" "entry" "[I") (by decide +kernel)
  have lk141 := hts (.fieldLink RX3 141 "MinedLedgerModel" "count" "I") (by decide +kernel)
  have lk150 := hts (.fieldLink RX3 150 "MinedLedgerModel" "wordCount" "I") (by decide +kernel)
  have hiX3 : ∀ w ∈ wsX30, w ∈ wsX3_commit := by decide +kernel
  refine lv_aload_n hx hb dX3_commit_0 rfl (lv_at hl 0 rfl) ?_
  refine va_get (D := G.1) (ci := 3) (v := .int (nI n)) (C := RX3) (T := TX3) (N := 19) hx hb hts hiX3 hown hK hP 0 rfl rfl 1 (by decide) lk141 (fun _ h9 => h9) rfl dX3_commit_1 ?_
  refine lv_bipush (v := nI 60) hx hb dX3_commit_4 (by decide) ?_
  refine cmp_ne hx hb n 60 12 (by omega) (by omega) dX3_commit_6 (by decide) (fun c6 => ?_) (fun c6 => ?_)
  · refine lv_aload_n hx hb dX3_commit_12 rfl (lv_at hl 0 rfl) ?_
    refine va_get (D := G.1) (ci := 3) (v := .int kn) (C := RX3) (T := TX3) (N := 19) hx hb hts hiX3 hown hK hP 0 rfl rfl 7 (by decide) lk19 (fun _ h9 => h9) rfl dX3_commit_13 ?_
    refine ifz_ge hx hb kn 22 dX3_commit_16 (by decide) (fun c16 => ?_) (fun c16 => ?_)
    · refine lv_aload_n hx hb dX3_commit_22 rfl (lv_at hl 0 rfl) ?_
      refine call_Vv (wr := ([] : va_W)) [] [] ⟨hx, hb, hml, hown, hts⟩ hK hX hA hP hD hS (m_draft l G _ b gc gd gw gf gp ga gb gh gg gx ge n k z t kn pl lf pn  (by omega) (by omega) (by omega) (by omega) (by omega) (by omega) (by omega) hga hgb) (cwV 0 hts gX3_commit_X3_draft rfl rfl rfl (by decide +kernel) ⟨Nat.le_of_ble_eq_true rfl, Nat.le_of_ble_eq_true rfl⟩) 3 0 rfl rfl rfl [0, 1, 2, 3, 4, 5, 6, 7, 8, 9, 10, 11] [] rfl rfl (by decide) (by decide) (by decide) rfl hl.1 (Nat.le_of_ble_eq_true rfl) dX3_commit_23 ⟨Nat.zero_le _, Nat.zero_le _⟩ (fun u H locs hw hP hD hS => ?_)
      have hP : va_P G.1 vwCl (wMd G b gc gd gw gf gp ga gb gh gg gx (p_F gc gw ge n k z) n k z t kn pl lf pn) H := hP
      have hD : va_D A (wMd G b gc gd gw gf gp ga gb gh gg gx (p_F gc gw ge n k z) n k z t kn pl lf pn) := hD
      refine lv_aload_n hx hb dX3_commit_26 rfl (lv_at hl 0 rfl) ?_
      refine va_get (D := G.1) (ci := 3) (v := .ref (b 11)) (C := RX3) (T := TX3) (N := 19) hx hb hts hiX3 hown hK hP 0 rfl rfl 18 (by decide) lk45 (fun _ h9 => h9) rfl dX3_commit_27 ?_
      refine lv_bipush (v := nI 25) hx hb dX3_commit_30 (by decide) ?_
      refine lv_aload_n hx hb dX3_commit_32 rfl (lv_at hl 0 rfl) ?_
      refine va_get (D := G.1) (ci := 3) (v := .int kn) (C := RX3) (T := TX3) (N := 19) hx hb hts hiX3 hown hK hP 0 rfl rfl 7 (by decide) lk19 (fun _ h9 => h9) rfl dX3_commit_33 ?_
      refine wr_i hx hb hK hP hD hS 11 rfl 25 (by omega) (by omega) dX3_commit_36 (fun H locs hP hD hS => ?_)
      have hP : va_P G.1 vwCl (wMd G b gc gd gw gf gp ga gb gh gg gx (upd (p_F gc gw ge n k z) 25 kn) n k z t kn pl lf pn) H := hP
      have hD : va_D A (wMd G b gc gd gw gf gp ga gb gh gg gx (upd (p_F gc gw ge n k z) 25 kn) n k z t kn pl lf pn) := hD
      obtain ⟨E0, hE⟩ : ∃ E0, E0 = upd (p_F gc gw ge n k z) 25 kn := ⟨_, rfl⟩
      rw [← hE] at hP hD
      have hP : va_P G.1 vwCl (wMd G b gc gd gw gf gp ga gb gh gg gx E0 n k z t kn pl lf pn) H := hP
      have hD : va_D A (wMd G b gc gd gw gf gp ga gb gh gg gx E0 n k z t kn pl lf pn) := hD
      refine lv_aload_n hx hb dX3_commit_37 rfl (lv_at hl 0 rfl) ?_
      refine call_Vv (wr := ([] : va_W)) [] [] ⟨hx, hb, hml, hown, hts⟩ hK hX hA hP hD hS (m_mixFirst l G _ b gc gd gw gf gp ga gb gh gg gx E0 n k z t kn pl lf pn  (by omega) (by omega) (by omega) (by omega) (by omega) (by omega) (by omega) hga hgb) (cwV 0 hts gX3_commit_X3_mixFirst rfl rfl rfl (by decide +kernel) ⟨Nat.le_of_ble_eq_true rfl, Nat.le_of_ble_eq_true rfl⟩) 3 0 rfl rfl rfl [0, 1, 2, 3, 4, 5, 6, 7, 8, 9, 10, 11] [] rfl rfl (by decide) (by decide) (by decide) rfl hl.1 (Nat.le_of_ble_eq_true rfl) dX3_commit_38 ⟨Nat.zero_le _, Nat.zero_le _⟩ (fun u H locs hw hP hD hS => ?_)
      obtain ⟨hu_5, gu_5, xu_5⟩ := u
      have qu_5 : ∀ j, j < 8 → gu_5 j = p_h1 E0 0 j := hw
      have hP : va_P G.1 vwCl (wMd G b gc gd gw gf gp ga gb hu_5 gu_5 xu_5 E0 n k z t kn pl lf pn) H := hP
      have hD : va_D A (wMd G b gc gd gw gf gp ga gb hu_5 gu_5 xu_5 E0 n k z t kn pl lf pn) := hD
      refine lv_aload_n hx hb dX3_commit_41 rfl (lv_at hl 0 rfl) ?_
      refine call_Vv (wr := ([] : va_W)) [] [] ⟨hx, hb, hml, hown, hts⟩ hK hX hA hP hD hS (m_mixSecond l G _ b gc gd gw gf gp ga gb hu_5 gu_5 xu_5 E0 n k z t kn pl lf pn  (by omega) (by omega) (by omega) (by omega) (by omega) (by omega) (by omega) hga hgb) (cwV 0 hts gX3_commit_X3_mixSecond rfl rfl rfl (by decide +kernel) ⟨Nat.le_of_ble_eq_true rfl, Nat.le_of_ble_eq_true rfl⟩) 3 0 rfl rfl rfl [0, 1, 2, 3, 4, 5, 6, 7, 8, 9, 10, 11] [] rfl rfl (by decide) (by decide) (by decide) rfl hl.1 (Nat.le_of_ble_eq_true rfl) dX3_commit_42 ⟨Nat.zero_le _, Nat.zero_le _⟩ (fun u H locs hw hP hD hS => ?_)
      obtain ⟨hu_7, xu_7⟩ := u
      have qu_7 : ∀ j, j < 8 → hu_7 j = p_mix gu_5 (p_b2 E0 0) j := hw
      have hP : va_P G.1 vwCl (wMd G b gc gd gw gf gp ga gb hu_7 gu_5 xu_7 E0 n k z t kn pl lf pn) H := hP
      have hD : va_D A (wMd G b gc gd gw gf gp ga gb hu_7 gu_5 xu_7 E0 n k z t kn pl lf pn) := hD
      refine lv_iconst (v := nI 0) hx hb dX3_commit_45 (by decide) ?_
      refine lv_istore_n (lv' := [(1, .int (nI 0)), (0, .ref (b 0))]) hx hb dX3_commit_46 rfl hl (by decide) rfl (fun ls hl => ?_)
      have hP : va_P G.1 vwCl (wMd G b (va_cpy E0 gc 0 (34 * n) 0) gd gw gf gp ga gb hu_7 gu_5 xu_7 E0 n k z t kn pl lf pn) H := by rw [cpy_n0]; exact hP
      have hD : va_D A (wMd G b (va_cpy E0 gc 0 (34 * n) 0) gd gw gf gp ga gb hu_7 gu_5 xu_7 E0 n k z t kn pl lf pn) := by rw [cpy_n0]; exact hD
      suffices hloop1 : ∀ (fu1 : Nat) (i1 : Nat), (i1 ≤ 26) → 26 - i1 < fu1 → ∀ (H : Heap) (locs : List Loc) (ls : Array Slot), va_P G.1 vwCl (wMd G b (va_cpy E0 gc 0 (34 * n) i1) gd gw gf gp ga gb hu_7 gu_5 xu_7 E0 n k z t kn pl lf pn) H → va_D A (wMd G b (va_cpy E0 gc 0 (34 * n) i1) gd gw gf gp ga gb hu_7 gu_5 xu_7 E0 n k z t kn pl lf pn) → va_S A s.heap H locs → lv_has ls 2 [(0, .ref (b 0)), (1, .int (nI i1))] → W p l e ({ frames := 4, cells := 0, slots := 0, locals := 90 } : Room) s m args below meth c H locs 0 0 Q (F0 m 47 ls []) from hloop1 _ 0 (Nat.zero_le _) (Nat.lt_succ_self _) _ _ _ hP hD hS (lv_sub hl [1, 0] rfl)
      clear hP hD hS hl
      intro fu1
      induction fu1 with
      | zero => intro i1 hi1 hfu; exact absurd hfu (Nat.not_lt_zero _)
      | succ fu1 ih1 =>
        intro i1 hi1 hfu1 H locs ls hP hD hS hl
        refine lv_iload_n hx hb dX3_commit_47 rfl (lv_at hl 1 rfl) ?_
        refine lv_bipush (v := nI 26) hx hb dX3_commit_48 (by decide) ?_
        refine cmp_ge hx hb i1 26 79 (by omega) (by omega) dX3_commit_50 (by decide) (fun c50 => ?_) (fun c50 => ?_)
        · have e79 : i1 = 26 := by omega
          subst e79
          refine lv_iconst (v := nI 0) hx hb dX3_commit_79 (by decide) ?_
          refine lv_istore_n (lv' := [(1, .int (nI 0)), (0, .ref (b 0))]) hx hb dX3_commit_80 rfl hl (by decide) rfl (fun ls hl => ?_)
          have hP : va_P G.1 vwCl (wMd G b (va_cpy hu_7 (va_cpy E0 gc 0 (34 * n) 26) 0 (34 * n + 26) 0) gd gw gf gp ga gb hu_7 gu_5 xu_7 E0 n k z t kn pl lf pn) H := by rw [cpy_n0]; exact hP
          have hD : va_D A (wMd G b (va_cpy hu_7 (va_cpy E0 gc 0 (34 * n) 26) 0 (34 * n + 26) 0) gd gw gf gp ga gb hu_7 gu_5 xu_7 E0 n k z t kn pl lf pn) := by rw [cpy_n0]; exact hD
          have hP : va_P G.1 vwCl (wMd G b (va_cpy hu_7 (va_cpy E0 gc 0 (34 * n) 26) 0 (34 * n + 26) 0) (va_cpy hu_7 gd 0 0 0) gw gf gp ga gb hu_7 gu_5 xu_7 E0 n k z t kn pl lf pn) H := by rw [cpy_n0 hu_7 gd 0 0]; exact hP
          have hD : va_D A (wMd G b (va_cpy hu_7 (va_cpy E0 gc 0 (34 * n) 26) 0 (34 * n + 26) 0) (va_cpy hu_7 gd 0 0 0) gw gf gp ga gb hu_7 gu_5 xu_7 E0 n k z t kn pl lf pn) := by rw [cpy_n0 hu_7 gd 0 0]; exact hD
          suffices hloop2 : ∀ (fu2 : Nat) (i2 : Nat), (i2 ≤ 8) → 8 - i2 < fu2 → ∀ (H : Heap) (locs : List Loc) (ls : Array Slot), va_P G.1 vwCl (wMd G b (va_cpy hu_7 (va_cpy E0 gc 0 (34 * n) 26) 0 (34 * n + 26) i2) (va_cpy hu_7 gd 0 0 i2) gw gf gp ga gb hu_7 gu_5 xu_7 E0 n k z t kn pl lf pn) H → va_D A (wMd G b (va_cpy hu_7 (va_cpy E0 gc 0 (34 * n) 26) 0 (34 * n + 26) i2) (va_cpy hu_7 gd 0 0 i2) gw gf gp ga gb hu_7 gu_5 xu_7 E0 n k z t kn pl lf pn) → va_S A s.heap H locs → lv_has ls 2 [(0, .ref (b 0)), (1, .int (nI i2))] → W p l e ({ frames := 4, cells := 0, slots := 0, locals := 90 } : Room) s m args below meth c H locs 0 0 Q (F0 m 81 ls []) from hloop2 _ 0 (Nat.zero_le _) (Nat.lt_succ_self _) _ _ _ hP hD hS (lv_sub hl [1, 0] rfl)
          clear hP hD hS hl
          intro fu2
          induction fu2 with
          | zero => intro i2 hi2 hfu; exact absurd hfu (Nat.not_lt_zero _)
          | succ fu2 ih2 =>
            intro i2 hi2 hfu2 H locs ls hP hD hS hl
            refine lv_iload_n hx hb dX3_commit_81 rfl (lv_at hl 1 rfl) ?_
            refine lv_bipush (v := nI 8) hx hb dX3_commit_82 (by decide) ?_
            refine cmp_ge hx hb i2 8 128 (by omega) (by omega) dX3_commit_84 (by decide) (fun c84 => ?_) (fun c84 => ?_)
            · have e128 : i2 = 8 := by omega
              subst e128
              refine lv_aload_n hx hb dX3_commit_128 rfl (lv_at hl 0 rfl) ?_
              refine lv_dup hx hb dX3_commit_129 rfl ?_
              refine va_get (D := G.1) (ci := 3) (v := .int (nI n)) (C := RX3) (T := TX3) (N := 19) hx hb hts hiX3 hown hK hP 0 rfl rfl 1 (by decide) lk141 (fun _ h9 => h9) rfl dX3_commit_130 ?_
              refine lv_iconst (v := nI 1) hx hb dX3_commit_133 (by decide) ?_
              refine ad_N hx hb n 1 dX3_commit_134 ?_
              refine va_put (D := G.1) (ci := 3) (v := .int (nI (n + 1))) (ty := .int) (C := RX3) (T := TX3) (N := 19) hx hb hts hiX3 tyX3 tyX3_ok nmX3 hown hK hP hD hS 0 rfl rfl 1 (by decide) lk141 (fun _ h9 => h9) rfl (by decide +kernel) rfl rfl (Nat.le_of_ble_eq_true rfl) dX3_commit_135 (fun H locs hP hD hS => ?_)
              have hP : va_P G.1 vwCl (wMd G b (va_cpy hu_7 (va_cpy E0 gc 0 (34 * n) 26) 0 (34 * n + 26) 8) (va_cpy hu_7 gd 0 0 8) gw gf gp ga gb hu_7 gu_5 xu_7 E0 (n + 1) k z t kn pl lf pn) H := hP
              have hD : va_D A (wMd G b (va_cpy hu_7 (va_cpy E0 gc 0 (34 * n) 26) 0 (34 * n + 26) 8) (va_cpy hu_7 gd 0 0 8) gw gf gp ga gb hu_7 gu_5 xu_7 E0 (n + 1) k z t kn pl lf pn) := hD
              refine lv_aload_n hx hb dX3_commit_138 rfl (lv_at hl 0 rfl) ?_
              refine lv_aload_n hx hb dX3_commit_139 rfl (lv_at hl 0 rfl) ?_
              refine va_get (D := G.1) (ci := 3) (v := .int (nI (n + 1))) (C := RX3) (T := TX3) (N := 19) hx hb hts hiX3 hown hK hP 0 rfl rfl 1 (by decide) lk141 (fun _ h9 => h9) rfl dX3_commit_140 ?_
              refine lv_iconst (v := nI 1) hx hb dX3_commit_143 (by decide) ?_
              refine su_N hx hb (n + 1) 1 (by omega) dX3_commit_144 ?_
              refine call_Vv (wr := ([] : va_W)) [.int (nI ((n + 1) - 1))] [] ⟨hx, hb, hml, hown, hts⟩ hK hX hA hP hD hS (m_setBits l G _ b (va_cpy hu_7 (va_cpy E0 gc 0 (34 * n) 26) 0 (34 * n + 26) 8) (va_cpy hu_7 gd 0 0 8) gw gf gp ga gb hu_7 gu_5 xu_7 E0 (n + 1) k z t kn pl lf pn ((n + 1) - 1) (by omega) (by omega) (by omega) (by omega) (by omega) (by omega) (by omega) hga hgb (by omega)) (cwV 1 hts gX3_commit_X3_setBits rfl rfl rfl (by decide +kernel) ⟨Nat.le_of_ble_eq_true rfl, Nat.le_of_ble_eq_true rfl⟩) 3 0 rfl rfl rfl [0, 1, 2, 3, 4, 5, 6, 7, 8, 9, 10, 11] [] rfl rfl (by decide) (by decide) (by decide) rfl hl.1 (Nat.le_of_ble_eq_true rfl) dX3_commit_145 ⟨Nat.zero_le _, Nat.zero_le _⟩ (fun u H locs hw hP hD hS => ?_)
              have hP : va_P G.1 vwCl (wMd G b (va_cpy hu_7 (va_cpy E0 gc 0 (34 * n) 26) 0 (34 * n + 26) 8) (va_cpy hu_7 gd 0 0 8) gw (p_m8 gf (va_cpy hu_7 (va_cpy E0 gc 0 (34 * n) 26) 0 (34 * n + 26) 8) ((n + 1) - 1) 8) gp ga gb hu_7 gu_5 xu_7 E0 (n + 1) k z t kn pl lf pn) H := hP
              have hD : va_D A (wMd G b (va_cpy hu_7 (va_cpy E0 gc 0 (34 * n) 26) 0 (34 * n + 26) 8) (va_cpy hu_7 gd 0 0 8) gw (p_m8 gf (va_cpy hu_7 (va_cpy E0 gc 0 (34 * n) 26) 0 (34 * n + 26) 8) ((n + 1) - 1) 8) gp ga gb hu_7 gu_5 xu_7 E0 (n + 1) k z t kn pl lf pn) := hD
              refine lv_aload_n hx hb dX3_commit_148 rfl (lv_at hl 0 rfl) ?_
              refine lv_iconst (v := nI 0) hx hb dX3_commit_149 (by decide) ?_
              refine va_put (D := G.1) (ci := 3) (v := .int (nI 0)) (ty := .int) (C := RX3) (T := TX3) (N := 19) hx hb hts hiX3 tyX3 tyX3_ok nmX3 hown hK hP hD hS 0 rfl rfl 4 (by decide) lk150 (fun _ h9 => h9) rfl (by decide +kernel) rfl rfl (Nat.le_of_ble_eq_true rfl) dX3_commit_150 (fun H locs hP hD hS => ?_)
              have hP : va_P G.1 vwCl (wMd G b (va_cpy hu_7 (va_cpy E0 gc 0 (34 * n) 26) 0 (34 * n + 26) 8) (va_cpy hu_7 gd 0 0 8) gw (p_m8 gf (va_cpy hu_7 (va_cpy E0 gc 0 (34 * n) 26) 0 (34 * n + 26) 8) ((n + 1) - 1) 8) gp ga gb hu_7 gu_5 xu_7 E0 (n + 1) 0 z t kn pl lf pn) H := hP
              have hD : va_D A (wMd G b (va_cpy hu_7 (va_cpy E0 gc 0 (34 * n) 26) 0 (34 * n + 26) 8) (va_cpy hu_7 gd 0 0 8) gw (p_m8 gf (va_cpy hu_7 (va_cpy E0 gc 0 (34 * n) 26) 0 (34 * n + 26) 8) ((n + 1) - 1) 8) gp ga gb hu_7 gu_5 xu_7 E0 (n + 1) 0 z t kn pl lf pn) := hD
              refine lv_aload_n hx hb dX3_commit_153 rfl (lv_at hl 0 rfl) ?_
              refine call_Vv (wr := ([] : va_W)) [] [] ⟨hx, hb, hml, hown, hts⟩ hK hX hA hP hD hS (m_forget l G _ b (va_cpy hu_7 (va_cpy E0 gc 0 (34 * n) 26) 0 (34 * n + 26) 8) (va_cpy hu_7 gd 0 0 8) gw (p_m8 gf (va_cpy hu_7 (va_cpy E0 gc 0 (34 * n) 26) 0 (34 * n + 26) 8) ((n + 1) - 1) 8) gp ga gb hu_7 gu_5 xu_7 E0 (n + 1) 0 z t kn pl lf pn  (by omega) (by omega) (by omega) (by omega) (by omega) (by omega) (by omega) hga hgb) (cwV 0 hts gX3_commit_X3_forget rfl rfl rfl (by decide +kernel) ⟨Nat.le_of_ble_eq_true rfl, Nat.le_of_ble_eq_true rfl⟩) 3 0 rfl rfl rfl [0, 1, 2, 3, 4, 5, 6, 7, 8, 9, 10, 11] [] rfl rfl (by decide) (by decide) (by decide) rfl hl.1 (Nat.le_of_ble_eq_true rfl) dX3_commit_154 ⟨Nat.zero_le _, Nat.zero_le _⟩ (fun u H locs hw hP hD hS => ?_)
              have hP : va_P G.1 vwCl (wMd G b (va_cpy hu_7 (va_cpy E0 gc 0 (34 * n) 26) 0 (34 * n + 26) 8) (va_cpy hu_7 gd 0 0 8) gw (p_m8 gf (va_cpy hu_7 (va_cpy E0 gc 0 (34 * n) 26) 0 (34 * n + 26) 8) ((n + 1) - 1) 8) gp ga gb hu_7 gu_5 xu_7 E0 (n + 1) 0 z 0 (-1) pl lf pn) H := hP
              have hD : va_D A (wMd G b (va_cpy hu_7 (va_cpy E0 gc 0 (34 * n) 26) 0 (34 * n + 26) 8) (va_cpy hu_7 gd 0 0 8) gw (p_m8 gf (va_cpy hu_7 (va_cpy E0 gc 0 (34 * n) 26) 0 (34 * n + 26) 8) ((n + 1) - 1) 8) gp ga gb hu_7 gu_5 xu_7 E0 (n + 1) 0 z 0 (-1) pl lf pn) := hD
              refine lv_aload_n hx hb dX3_commit_157 rfl (lv_at hl 0 rfl) ?_
              refine va_get (D := G.1) (ci := 3) (v := .int (nI (n + 1))) (C := RX3) (T := TX3) (N := 19) hx hb hts hiX3 hown hK hP 0 rfl rfl 1 (by decide) lk141 (fun _ h9 => h9) rfl dX3_commit_158 ?_
              refine lv_iconst (v := nI 1) hx hb dX3_commit_161 (by decide) ?_
              refine su_N hx hb (n + 1) 1 (by omega) dX3_commit_162 ?_
              exact ret 163 _ _ _ (nI ((n + 1) - 1)) (va_cpy hu_7 (va_cpy E0 gc 0 (34 * n) 26) 0 (34 * n + 26) 8, va_cpy hu_7 gd 0 0 8, p_m8 gf (va_cpy hu_7 (va_cpy E0 gc 0 (34 * n) 26) 0 (34 * n + 26) 8) ((n + 1) - 1) 8, hu_7, gu_5, xu_7, E0, n + 1, 0, 0, (-1)) dX3_commit_163 (Or.inr ⟨c6, Or.inr ⟨c16, hu_7, fun j hj => by rw [← hE]; exact (qu_7 j hj).trans (p_mix_congr qu_5 (fun _ _ => rfl) j hj), rfl, by rw [← hE], rfl, rfl, rfl, rfl, rfl, rfl⟩⟩) hP hD hS
            · refine lv_aload_n hx hb dX3_commit_87 rfl (lv_at hl 0 rfl) ?_
              refine va_get (D := G.1) (ci := 3) (v := .ref (b 1)) (C := RX3) (T := TX3) (N := 19) hx hb hts hiX3 hown hK hP 0 rfl rfl 0 (by decide) lk7 (fun _ h9 => h9) rfl dX3_commit_88 ?_
              refine lv_bipush (v := nI 34) hx hb dX3_commit_91 (by decide) ?_
              refine lv_aload_n hx hb dX3_commit_93 rfl (lv_at hl 0 rfl) ?_
              refine va_get (D := G.1) (ci := 3) (v := .int (nI n)) (C := RX3) (T := TX3) (N := 19) hx hb hts hiX3 hown hK hP 0 rfl rfl 1 (by decide) lk141 (fun _ h9 => h9) rfl dX3_commit_94 ?_
              refine mu_N hx hb 34 n dX3_commit_97 ?_
              refine lv_bipush (v := nI 26) hx hb dX3_commit_98 (by decide) ?_
              refine ad_N hx hb (34 * n) 26 dX3_commit_100 ?_
              refine lv_iload_n hx hb dX3_commit_101 rfl (lv_at hl 1 rfl) ?_
              refine ad_N hx hb ((34 * n) + 26) i2 dX3_commit_102 ?_
              refine lv_aload_n hx hb dX3_commit_103 rfl (lv_at hl 0 rfl) ?_
              refine va_get (D := G.1) (ci := 3) (v := .ref (b 8)) (C := RX3) (T := TX3) (N := 19) hx hb hts hiX3 hown hK hP 0 rfl rfl 15 (by decide) lk36 (fun _ h9 => h9) rfl dX3_commit_104 ?_
              refine lv_iload_n hx hb dX3_commit_107 rfl (lv_at hl 1 rfl) ?_
              refine rd_i hx hb hK hP 8 rfl i2 (by omega) (by omega) dX3_commit_108 ?_
              refine wr_i hx hb hK hP hD hS 1 rfl (((34 * n) + 26) + i2) (by omega) (by omega) dX3_commit_109 (fun H locs hP hD hS => ?_)
              have hP : va_P G.1 vwCl (wMd G b (upd (va_cpy hu_7 (va_cpy E0 gc 0 (34 * n) 26) 0 (34 * n + 26) i2) (((34 * n) + 26) + i2) (hu_7 i2)) (va_cpy hu_7 gd 0 0 i2) gw gf gp ga gb hu_7 gu_5 xu_7 E0 n k z t kn pl lf pn) H := hP
              have hD : va_D A (wMd G b (upd (va_cpy hu_7 (va_cpy E0 gc 0 (34 * n) 26) 0 (34 * n + 26) i2) (((34 * n) + 26) + i2) (hu_7 i2)) (va_cpy hu_7 gd 0 0 i2) gw gf gp ga gb hu_7 gu_5 xu_7 E0 n k z t kn pl lf pn) := hD
              refine lv_aload_n hx hb dX3_commit_110 rfl (lv_at hl 0 rfl) ?_
              refine va_get (D := G.1) (ci := 3) (v := .ref (b 2)) (C := RX3) (T := TX3) (N := 19) hx hb hts hiX3 hown hK hP 0 rfl rfl 2 (by decide) lk13 (fun _ h9 => h9) rfl dX3_commit_111 ?_
              refine lv_iload_n hx hb dX3_commit_114 rfl (lv_at hl 1 rfl) ?_
              refine lv_aload_n hx hb dX3_commit_115 rfl (lv_at hl 0 rfl) ?_
              refine va_get (D := G.1) (ci := 3) (v := .ref (b 8)) (C := RX3) (T := TX3) (N := 19) hx hb hts hiX3 hown hK hP 0 rfl rfl 15 (by decide) lk36 (fun _ h9 => h9) rfl dX3_commit_116 ?_
              refine lv_iload_n hx hb dX3_commit_119 rfl (lv_at hl 1 rfl) ?_
              refine rd_i hx hb hK hP 8 rfl i2 (by omega) (by omega) dX3_commit_120 ?_
              refine wr_i hx hb hK hP hD hS 2 rfl i2 (by omega) (by omega) dX3_commit_121 (fun H locs hP hD hS => ?_)
              have hP : va_P G.1 vwCl (wMd G b (upd (va_cpy hu_7 (va_cpy E0 gc 0 (34 * n) 26) 0 (34 * n + 26) i2) (((34 * n) + 26) + i2) (hu_7 i2)) (upd (va_cpy hu_7 gd 0 0 i2) i2 (hu_7 i2)) gw gf gp ga gb hu_7 gu_5 xu_7 E0 n k z t kn pl lf pn) H := hP
              have hD : va_D A (wMd G b (upd (va_cpy hu_7 (va_cpy E0 gc 0 (34 * n) 26) 0 (34 * n + 26) i2) (((34 * n) + 26) + i2) (hu_7 i2)) (upd (va_cpy hu_7 gd 0 0 i2) i2 (hu_7 i2)) gw gf gp ga gb hu_7 gu_5 xu_7 E0 n k z t kn pl lf pn) := hD
              rw [show upd (va_cpy hu_7 (va_cpy E0 gc 0 (34 * n) 26) 0 (34 * n + 26) i2) (34 * n + 26 + i2) (hu_7 i2) = va_cpy hu_7 (va_cpy E0 gc 0 (34 * n) 26) 0 (34 * n + 26) (i2 + 1) from cpy_sb, show upd (va_cpy hu_7 gd 0 0 i2) i2 (hu_7 i2) = va_cpy hu_7 gd 0 0 (i2 + 1) from cpy_s0] at hP hD
              refine lv_iinc (v := nI (i2 + 1)) (lv' := [(1, .int (nI (i2 + 1))), (0, .ref (b 0))]) hx hb dX3_commit_122 hl (k := 1) rfl (inc_N i2 1) (by decide) rfl (fun ls hl => ?_)
              refine lv_goto (tgt := 81) hx hb dX3_commit_125 (by decide) ?_
              exact ih2 (i2 + 1) (by omega) (by omega) _ _ _ hP hD hS (lv_sub hl [1, 0] rfl)
        · refine lv_aload_n hx hb dX3_commit_53 rfl (lv_at hl 0 rfl) ?_
          refine va_get (D := G.1) (ci := 3) (v := .ref (b 1)) (C := RX3) (T := TX3) (N := 19) hx hb hts hiX3 hown hK hP 0 rfl rfl 0 (by decide) lk7 (fun _ h9 => h9) rfl dX3_commit_54 ?_
          refine lv_bipush (v := nI 34) hx hb dX3_commit_57 (by decide) ?_
          refine lv_aload_n hx hb dX3_commit_59 rfl (lv_at hl 0 rfl) ?_
          refine va_get (D := G.1) (ci := 3) (v := .int (nI n)) (C := RX3) (T := TX3) (N := 19) hx hb hts hiX3 hown hK hP 0 rfl rfl 1 (by decide) lk141 (fun _ h9 => h9) rfl dX3_commit_60 ?_
          refine mu_N hx hb 34 n dX3_commit_63 ?_
          refine lv_iload_n hx hb dX3_commit_64 rfl (lv_at hl 1 rfl) ?_
          refine ad_N hx hb (34 * n) i1 dX3_commit_65 ?_
          refine lv_aload_n hx hb dX3_commit_66 rfl (lv_at hl 0 rfl) ?_
          refine va_get (D := G.1) (ci := 3) (v := .ref (b 11)) (C := RX3) (T := TX3) (N := 19) hx hb hts hiX3 hown hK hP 0 rfl rfl 18 (by decide) lk45 (fun _ h9 => h9) rfl dX3_commit_67 ?_
          refine lv_iload_n hx hb dX3_commit_70 rfl (lv_at hl 1 rfl) ?_
          refine rd_i hx hb hK hP 11 rfl i1 (by omega) (by omega) dX3_commit_71 ?_
          refine wr_i hx hb hK hP hD hS 1 rfl ((34 * n) + i1) (by omega) (by omega) dX3_commit_72 (fun H locs hP hD hS => ?_)
          have hP : va_P G.1 vwCl (wMd G b (upd (va_cpy E0 gc 0 (34 * n) i1) ((34 * n) + i1) (E0 i1)) gd gw gf gp ga gb hu_7 gu_5 xu_7 E0 n k z t kn pl lf pn) H := hP
          have hD : va_D A (wMd G b (upd (va_cpy E0 gc 0 (34 * n) i1) ((34 * n) + i1) (E0 i1)) gd gw gf gp ga gb hu_7 gu_5 xu_7 E0 n k z t kn pl lf pn) := hD
          rw [show upd (va_cpy E0 gc 0 (34 * n) i1) (34 * n + i1) (E0 i1) = va_cpy E0 gc 0 (34 * n) (i1 + 1) from cpy_sb] at hP hD
          refine lv_iinc (v := nI (i1 + 1)) (lv' := [(1, .int (nI (i1 + 1))), (0, .ref (b 0))]) hx hb dX3_commit_73 hl (k := 1) rfl (inc_N i1 1) (by decide) rfl (fun ls hl => ?_)
          refine lv_goto (tgt := 47) hx hb dX3_commit_76 (by decide) ?_
          exact ih1 (i1 + 1) (by omega) (by omega) _ _ _ hP hD hS (lv_sub hl [1, 0] rfl)
    · refine lv_bipush (v := (-3)) hx hb dX3_commit_19 (by decide) ?_
      exact ret 21 _ _ _ (-3) (gc, gd, gf, gh, gg, gx, ge, n, k, t, kn) dX3_commit_21 (Or.inr ⟨c6, Or.inl ⟨c16, rfl, rfl, rfl, rfl, rfl, rfl, rfl, rfl⟩⟩) hP hD hS
  · refine lv_bipush (v := (-4)) hx hb dX3_commit_9 (by decide) ?_
    exact ret 11 _ _ _ (-4) (gc, gd, gf, gh, gg, gx, ge, n, k, t, kn) dX3_commit_11 (Or.inl ⟨c6, rfl, rfl, rfl, rfl, rfl, rfl, rfl, rfl⟩) hP hD hS
set_option maxHeartbeats 4000000 in
set_option maxRecDepth 100000 in
theorem m_drop (l : Launch) (G : gG) (sz : Nat) (b : Nat → Nat) (gc gd gw gf gp ga gb gh gg gx ge : Nat → Int32) (n k z t : Nat) (kn : Int32) (pl lf pn : Nat)  (hn : n ≤ 60) (hk : k ≤ 8) (hz : z ≤ 20) (ht : t ≤ 100000) (hpl : pl ≤ 60) (hlf : lf ≤ 6) (hpn : pn ≤ 1560) (hga : ∀ j, j < 64 → ga j = st_K j) (hgb : ∀ j, j < 8 → gb j = st_S j)  : MetI l yX3_drop wsX3_drop ({ frames := 4, cells := 0, slots := 0, locals := 90 } : Room) [.ref (b 0)] G (wMd G b gc gd gw gf gp ga gb gh gg gx ge n k z t kn pl lf pn) sz (fun u : (Nat → Int32) × (Nat → Int32) × Nat × Nat × Int32 × Nat => wMd G b gc u.1 gw u.2.1 gp ga gb gh gg gx ge u.2.2.1 k z u.2.2.2.1 u.2.2.2.2.1 u.2.2.2.2.2 lf pn) (fun r u => r_drop gc gd gf n t kn pl r u.1 u.2.1 u.2.2.1 u.2.2.2.1 u.2.2.2.2.1 u.2.2.2.2.2) := by
  refine ent_i _ cX3_drop 2 RX3 (by decide) rfl rfl (Nat.le_of_ble_eq_true rfl) ?_
  intro p e s m args below meth c A Q ls hx hb hml hts hown hA hK hX ret hl hP hD hS
  have hl : lv_has ls 2 [(0, .ref (b 0))] := hl
  have lk7 := hts (.fieldLink RX3 7 "MinedLedgerModel" "cells" "[I") (by decide +kernel)
  have lk13 := hts (.fieldLink RX3 13 "MinedLedgerModel" "head" "[I") (by decide +kernel)
  have lk23 := hts (.fieldLink RX3 23 "MinedLedgerModel" "filter" "[Z") (by decide +kernel)
  have lk141 := hts (.fieldLink RX3 141 "MinedLedgerModel" "count" "I") (by decide +kernel)
  have lk181 := hts (.fieldLink RX3 181 "MinedLedgerModel" "place" "I") (by decide +kernel)
  have hiX3 : ∀ w ∈ wsX30, w ∈ wsX3_drop := by decide +kernel
  refine lv_aload_n hx hb dX3_drop_0 rfl (lv_at hl 0 rfl) ?_
  refine va_get (D := G.1) (ci := 3) (v := .int (nI n)) (C := RX3) (T := TX3) (N := 19) hx hb hts hiX3 hown hK hP 0 rfl rfl 1 (by decide) lk141 (fun _ h9 => h9) rfl dX3_drop_1 ?_
  refine if0_ne hx hb n 9 (by omega) dX3_drop_4 (by decide) (fun c4 => ?_) (fun c4 => ?_)
  · refine lv_aload_n hx hb dX3_drop_9 rfl (lv_at hl 0 rfl) ?_
    refine lv_dup hx hb dX3_drop_10 rfl ?_
    refine va_get (D := G.1) (ci := 3) (v := .int (nI n)) (C := RX3) (T := TX3) (N := 19) hx hb hts hiX3 hown hK hP 0 rfl rfl 1 (by decide) lk141 (fun _ h9 => h9) rfl dX3_drop_11 ?_
    refine lv_iconst (v := nI 1) hx hb dX3_drop_14 (by decide) ?_
    refine su_N hx hb n 1 (by omega) dX3_drop_15 ?_
    refine va_put (D := G.1) (ci := 3) (v := .int (nI (n - 1))) (ty := .int) (C := RX3) (T := TX3) (N := 19) hx hb hts hiX3 tyX3 tyX3_ok nmX3 hown hK hP hD hS 0 rfl rfl 1 (by decide) lk141 (fun _ h9 => h9) rfl (by decide +kernel) rfl rfl (Nat.le_of_ble_eq_true rfl) dX3_drop_16 (fun H locs hP hD hS => ?_)
    have hP : va_P G.1 vwCl (wMd G b gc gd gw gf gp ga gb gh gg gx ge (n - 1) k z t kn pl lf pn) H := hP
    have hD : va_D A (wMd G b gc gd gw gf gp ga gb gh gg gx ge (n - 1) k z t kn pl lf pn) := hD
    refine lv_iconst (v := nI 0) hx hb dX3_drop_19 (by decide) ?_
    refine lv_istore_n (lv' := [(1, .int (nI 0)), (0, .ref (b 0))]) hx hb dX3_drop_20 rfl hl (by decide) rfl (fun ls hl => ?_)
    have hP : va_P G.1 vwCl (wMd G b gc (va_cpy gc gd (34 * (n - 1)) 0 0) gw gf gp ga gb gh gg gx ge (n - 1) k z t kn pl lf pn) H := by rw [cpy_n0]; exact hP
    have hD : va_D A (wMd G b gc (va_cpy gc gd (34 * (n - 1)) 0 0) gw gf gp ga gb gh gg gx ge (n - 1) k z t kn pl lf pn) := by rw [cpy_n0]; exact hD
    suffices hloop1 : ∀ (fu1 : Nat) (i1 : Nat), (i1 ≤ 8) → 8 - i1 < fu1 → ∀ (H : Heap) (locs : List Loc) (ls : Array Slot), va_P G.1 vwCl (wMd G b gc (va_cpy gc gd (34 * (n - 1)) 0 i1) gw gf gp ga gb gh gg gx ge (n - 1) k z t kn pl lf pn) H → va_D A (wMd G b gc (va_cpy gc gd (34 * (n - 1)) 0 i1) gw gf gp ga gb gh gg gx ge (n - 1) k z t kn pl lf pn) → va_S A s.heap H locs → lv_has ls 2 [(0, .ref (b 0)), (1, .int (nI i1))] → W p l e ({ frames := 4, cells := 0, slots := 0, locals := 90 } : Room) s m args below meth c H locs 0 0 Q (F0 m 21 ls []) from hloop1 _ 0 (Nat.zero_le _) (Nat.lt_succ_self _) _ _ _ hP hD hS (lv_sub hl [1, 0] rfl)
    clear hP hD hS hl
    intro fu1
    induction fu1 with
    | zero => intro i1 hi1 hfu; exact absurd hfu (Nat.not_lt_zero _)
    | succ fu1 ih1 =>
      intro i1 hi1 hfu1 H locs ls hP hD hS hl
      refine lv_iload_n hx hb dX3_drop_21 rfl (lv_at hl 1 rfl) ?_
      refine lv_bipush (v := nI 8) hx hb dX3_drop_22 (by decide) ?_
      refine cmp_ge hx hb i1 8 53 (by omega) (by omega) dX3_drop_24 (by decide) (fun c24 => ?_) (fun c24 => ?_)
      · have e53 : i1 = 8 := by omega
        subst e53
        refine lv_iconst (v := nI 0) hx hb dX3_drop_53 (by decide) ?_
        refine lv_istore_n (lv' := [(1, .int (nI 0)), (0, .ref (b 0))]) hx hb dX3_drop_54 rfl hl (by decide) rfl (fun ls hl => ?_)
        have hP : va_P G.1 vwCl (wMd G b gc (va_cpy gc gd (34 * (n - 1)) 0 8) gw (p_fill gf 0 0 (nI 0)) gp ga gb gh gg gx ge (n - 1) k z t kn pl lf pn) H := by rw [p_fill_0]; exact hP
        have hD : va_D A (wMd G b gc (va_cpy gc gd (34 * (n - 1)) 0 8) gw (p_fill gf 0 0 (nI 0)) gp ga gb gh gg gx ge (n - 1) k z t kn pl lf pn) := by rw [p_fill_0]; exact hD
        suffices hloop2 : ∀ (fu2 : Nat) (i2 : Nat), (i2 ≤ 1024) → 1024 - i2 < fu2 → ∀ (H : Heap) (locs : List Loc) (ls : Array Slot), va_P G.1 vwCl (wMd G b gc (va_cpy gc gd (34 * (n - 1)) 0 8) gw (p_fill gf 0 i2 (nI 0)) gp ga gb gh gg gx ge (n - 1) k z t kn pl lf pn) H → va_D A (wMd G b gc (va_cpy gc gd (34 * (n - 1)) 0 8) gw (p_fill gf 0 i2 (nI 0)) gp ga gb gh gg gx ge (n - 1) k z t kn pl lf pn) → va_S A s.heap H locs → lv_has ls 2 [(0, .ref (b 0)), (1, .int (nI i2))] → W p l e ({ frames := 4, cells := 0, slots := 0, locals := 90 } : Room) s m args below meth c H locs 0 0 Q (F0 m 55 ls []) from hloop2 _ 0 (Nat.zero_le _) (Nat.lt_succ_self _) _ _ _ hP hD hS (lv_sub hl [1, 0] rfl)
        clear hP hD hS hl
        intro fu2
        induction fu2 with
        | zero => intro i2 hi2 hfu; exact absurd hfu (Nat.not_lt_zero _)
        | succ fu2 ih2 =>
          intro i2 hi2 hfu2 H locs ls hP hD hS hl
          refine lv_iload_n hx hb dX3_drop_55 rfl (lv_at hl 1 rfl) ?_
          refine lv_sipush (v := nI 1024) hx hb dX3_drop_56 (by decide) ?_
          refine cmp_ge hx hb i2 1024 75 (by omega) (by omega) dX3_drop_59 (by decide) (fun c59 => ?_) (fun c59 => ?_)
          · have e75 : i2 = 1024 := by omega
            subst e75
            refine lv_iconst (v := nI 0) hx hb dX3_drop_75 (by decide) ?_
            refine lv_istore_n (lv' := [(1, .int (nI 0)), (0, .ref (b 0))]) hx hb dX3_drop_76 rfl hl (by decide) rfl (fun ls hl => ?_)
            have hP : va_P G.1 vwCl (wMd G b gc (va_cpy gc gd (34 * (n - 1)) 0 8) gw (p_mrm gf gc 0) gp ga gb gh gg gx ge (n - 1) k z t kn pl lf pn) H := hP
            have hD : va_D A (wMd G b gc (va_cpy gc gd (34 * (n - 1)) 0 8) gw (p_mrm gf gc 0) gp ga gb gh gg gx ge (n - 1) k z t kn pl lf pn) := hD
            suffices hloop3 : ∀ (fu3 : Nat) (i3 : Nat), (i3 ≤ n - 1) → n - 1 - i3 < fu3 → ∀ (H : Heap) (locs : List Loc) (ls : Array Slot), va_P G.1 vwCl (wMd G b gc (va_cpy gc gd (34 * (n - 1)) 0 8) gw (p_mrm gf gc i3) gp ga gb gh gg gx ge (n - 1) k z t kn pl lf pn) H → va_D A (wMd G b gc (va_cpy gc gd (34 * (n - 1)) 0 8) gw (p_mrm gf gc i3) gp ga gb gh gg gx ge (n - 1) k z t kn pl lf pn) → va_S A s.heap H locs → lv_has ls 2 [(0, .ref (b 0)), (1, .int (nI i3))] → W p l e ({ frames := 4, cells := 0, slots := 0, locals := 90 } : Room) s m args below meth c H locs 0 0 Q (F0 m 77 ls []) from hloop3 _ 0 (Nat.zero_le _) (Nat.lt_succ_self _) _ _ _ hP hD hS (lv_sub hl [1, 0] rfl)
            clear hP hD hS hl
            intro fu3
            induction fu3 with
            | zero => intro i3 hi3 hfu; exact absurd hfu (Nat.not_lt_zero _)
            | succ fu3 ih3 =>
              intro i3 hi3 hfu3 H locs ls hP hD hS hl
              refine lv_iload_n hx hb dX3_drop_77 rfl (lv_at hl 1 rfl) ?_
              refine lv_aload_n hx hb dX3_drop_78 rfl (lv_at hl 0 rfl) ?_
              refine va_get (D := G.1) (ci := 3) (v := .int (nI (n - 1))) (C := RX3) (T := TX3) (N := 19) hx hb hts hiX3 hown hK hP 0 rfl rfl 1 (by decide) lk141 (fun _ h9 => h9) rfl dX3_drop_79 ?_
              refine cmp_ge hx hb i3 (n - 1) 96 (by omega) (by omega) dX3_drop_82 (by decide) (fun c82 => ?_) (fun c82 => ?_)
              · have e96 : i3 = n - 1 := by omega
                subst e96
                refine lv_aload_n hx hb dX3_drop_96 rfl (lv_at hl 0 rfl) ?_
                refine lv_aload_n hx hb dX3_drop_97 rfl (lv_at hl 0 rfl) ?_
                refine va_get (D := G.1) (ci := 3) (v := .int (nI pl)) (C := RX3) (T := TX3) (N := 19) hx hb hts hiX3 hown hK hP 0 rfl rfl 9 (by decide) lk181 (fun _ h9 => h9) rfl dX3_drop_98 ?_
                refine lv_aload_n hx hb dX3_drop_101 rfl (lv_at hl 0 rfl) ?_
                refine va_get (D := G.1) (ci := 3) (v := .int (nI (n - 1))) (C := RX3) (T := TX3) (N := 19) hx hb hts hiX3 hown hK hP 0 rfl rfl 1 (by decide) lk141 (fun _ h9 => h9) rfl dX3_drop_102 ?_
                refine cmp_le hx hb pl (n - 1) 115 (by omega) (by omega) dX3_drop_105 (by decide) (fun c105 => ?_) (fun c105 => ?_)
                · refine lv_aload_n hx hb dX3_drop_115 rfl (lv_at hl 0 rfl) ?_
                  refine va_get (D := G.1) (ci := 3) (v := .int (nI pl)) (C := RX3) (T := TX3) (N := 19) hx hb hts hiX3 hown hK hP 0 rfl rfl 9 (by decide) lk181 (fun _ h9 => h9) rfl dX3_drop_116 ?_
                  refine va_put (D := G.1) (ci := 3) (v := .int (nI pl)) (ty := .int) (C := RX3) (T := TX3) (N := 19) hx hb hts hiX3 tyX3 tyX3_ok nmX3 hown hK hP hD hS 0 rfl rfl 9 (by decide) lk181 (fun _ h9 => h9) rfl (by decide +kernel) rfl rfl (Nat.le_of_ble_eq_true rfl) dX3_drop_119 (fun H locs hP hD hS => ?_)
                  have hP : va_P G.1 vwCl (wMd G b gc (va_cpy gc gd (34 * (n - 1)) 0 8) gw (p_mrm gf gc (n - 1)) gp ga gb gh gg gx ge (n - 1) k z t kn pl lf pn) H := hP
                  have hD : va_D A (wMd G b gc (va_cpy gc gd (34 * (n - 1)) 0 8) gw (p_mrm gf gc (n - 1)) gp ga gb gh gg gx ge (n - 1) k z t kn pl lf pn) := hD
                  refine lv_aload_n hx hb dX3_drop_122 rfl (lv_at hl 0 rfl) ?_
                  refine call_Vv (wr := ([] : va_W)) [] [] ⟨hx, hb, hml, hown, hts⟩ hK hX hA hP hD hS (m_forget l G _ b gc (va_cpy gc gd (34 * (n - 1)) 0 8) gw (p_mrm gf gc (n - 1)) gp ga gb gh gg gx ge (n - 1) k z t kn pl lf pn  (by omega) (by omega) (by omega) (by omega) (by omega) (by omega) (by omega) hga hgb) (cwV 0 hts gX3_drop_X3_forget rfl rfl rfl (by decide +kernel) ⟨Nat.le_of_ble_eq_true rfl, Nat.le_of_ble_eq_true rfl⟩) 3 0 rfl rfl rfl [0, 1, 2, 3, 4, 5, 6, 7, 8, 9, 10, 11] [] rfl rfl (by decide) (by decide) (by decide) rfl hl.1 (Nat.le_of_ble_eq_true rfl) dX3_drop_123 ⟨Nat.zero_le _, Nat.zero_le _⟩ (fun u H locs hw hP hD hS => ?_)
                  have hP : va_P G.1 vwCl (wMd G b gc (va_cpy gc gd (34 * (n - 1)) 0 8) gw (p_mrm gf gc (n - 1)) gp ga gb gh gg gx ge (n - 1) k z 0 (-1) pl lf pn) H := hP
                  have hD : va_D A (wMd G b gc (va_cpy gc gd (34 * (n - 1)) 0 8) gw (p_mrm gf gc (n - 1)) gp ga gb gh gg gx ge (n - 1) k z 0 (-1) pl lf pn) := hD
                  refine lv_aload_n hx hb dX3_drop_126 rfl (lv_at hl 0 rfl) ?_
                  refine va_get (D := G.1) (ci := 3) (v := .int (nI (n - 1))) (C := RX3) (T := TX3) (N := 19) hx hb hts hiX3 hown hK hP 0 rfl rfl 1 (by decide) lk141 (fun _ h9 => h9) rfl dX3_drop_127 ?_
                  exact ret 130 _ _ _ (nI (n - 1)) (va_cpy gc gd (34 * (n - 1)) 0 8, p_mrm gf gc (n - 1), n - 1, 0, (-1), pl) dX3_drop_130 (Or.inr ⟨c4, rfl, rfl, rfl, rfl, rfl, rfl, by show pl = min pl (n - 1); omega⟩) hP hD hS
                · refine lv_aload_n hx hb dX3_drop_108 rfl (lv_at hl 0 rfl) ?_
                  refine va_get (D := G.1) (ci := 3) (v := .int (nI (n - 1))) (C := RX3) (T := TX3) (N := 19) hx hb hts hiX3 hown hK hP 0 rfl rfl 1 (by decide) lk141 (fun _ h9 => h9) rfl dX3_drop_109 ?_
                  refine lv_goto (tgt := 119) hx hb dX3_drop_112 (by decide) ?_
                  refine va_put (D := G.1) (ci := 3) (v := .int (nI (n - 1))) (ty := .int) (C := RX3) (T := TX3) (N := 19) hx hb hts hiX3 tyX3 tyX3_ok nmX3 hown hK hP hD hS 0 rfl rfl 9 (by decide) lk181 (fun _ h9 => h9) rfl (by decide +kernel) rfl rfl (Nat.le_of_ble_eq_true rfl) dX3_drop_119 (fun H locs hP hD hS => ?_)
                  have hP : va_P G.1 vwCl (wMd G b gc (va_cpy gc gd (34 * (n - 1)) 0 8) gw (p_mrm gf gc (n - 1)) gp ga gb gh gg gx ge (n - 1) k z t kn (n - 1) lf pn) H := hP
                  have hD : va_D A (wMd G b gc (va_cpy gc gd (34 * (n - 1)) 0 8) gw (p_mrm gf gc (n - 1)) gp ga gb gh gg gx ge (n - 1) k z t kn (n - 1) lf pn) := hD
                  refine lv_aload_n hx hb dX3_drop_122 rfl (lv_at hl 0 rfl) ?_
                  refine call_Vv (wr := ([] : va_W)) [] [] ⟨hx, hb, hml, hown, hts⟩ hK hX hA hP hD hS (m_forget l G _ b gc (va_cpy gc gd (34 * (n - 1)) 0 8) gw (p_mrm gf gc (n - 1)) gp ga gb gh gg gx ge (n - 1) k z t kn (n - 1) lf pn  (by omega) (by omega) (by omega) (by omega) (by omega) (by omega) (by omega) hga hgb) (cwV 0 hts gX3_drop_X3_forget rfl rfl rfl (by decide +kernel) ⟨Nat.le_of_ble_eq_true rfl, Nat.le_of_ble_eq_true rfl⟩) 3 0 rfl rfl rfl [0, 1, 2, 3, 4, 5, 6, 7, 8, 9, 10, 11] [] rfl rfl (by decide) (by decide) (by decide) rfl hl.1 (Nat.le_of_ble_eq_true rfl) dX3_drop_123 ⟨Nat.zero_le _, Nat.zero_le _⟩ (fun u H locs hw hP hD hS => ?_)
                  have hP : va_P G.1 vwCl (wMd G b gc (va_cpy gc gd (34 * (n - 1)) 0 8) gw (p_mrm gf gc (n - 1)) gp ga gb gh gg gx ge (n - 1) k z 0 (-1) (n - 1) lf pn) H := hP
                  have hD : va_D A (wMd G b gc (va_cpy gc gd (34 * (n - 1)) 0 8) gw (p_mrm gf gc (n - 1)) gp ga gb gh gg gx ge (n - 1) k z 0 (-1) (n - 1) lf pn) := hD
                  refine lv_aload_n hx hb dX3_drop_126 rfl (lv_at hl 0 rfl) ?_
                  refine va_get (D := G.1) (ci := 3) (v := .int (nI (n - 1))) (C := RX3) (T := TX3) (N := 19) hx hb hts hiX3 hown hK hP 0 rfl rfl 1 (by decide) lk141 (fun _ h9 => h9) rfl dX3_drop_127 ?_
                  exact ret 130 _ _ _ (nI (n - 1)) (va_cpy gc gd (34 * (n - 1)) 0 8, p_mrm gf gc (n - 1), n - 1, 0, (-1), n - 1) dX3_drop_130 (Or.inr ⟨c4, rfl, rfl, rfl, rfl, rfl, rfl, by show n - 1 = min pl (n - 1); omega⟩) hP hD hS
              · refine lv_aload_n hx hb dX3_drop_85 rfl (lv_at hl 0 rfl) ?_
                refine lv_iload_n hx hb dX3_drop_86 rfl (lv_at hl 1 rfl) ?_
                refine call_Vv (wr := ([] : va_W)) [.int (nI i3)] [] ⟨hx, hb, hml, hown, hts⟩ hK hX hA hP hD hS (m_setBits l G _ b gc (va_cpy gc gd (34 * (n - 1)) 0 8) gw (p_mrm gf gc i3) gp ga gb gh gg gx ge (n - 1) k z t kn pl lf pn i3 (by omega) (by omega) (by omega) (by omega) (by omega) (by omega) (by omega) hga hgb (by omega)) (cwV 1 hts gX3_drop_X3_setBits rfl rfl rfl (by decide +kernel) ⟨Nat.le_of_ble_eq_true rfl, Nat.le_of_ble_eq_true rfl⟩) 3 0 rfl rfl rfl [0, 1, 2, 3, 4, 5, 6, 7, 8, 9, 10, 11] [] rfl rfl (by decide) (by decide) (by decide) rfl hl.1 (Nat.le_of_ble_eq_true rfl) dX3_drop_87 ⟨Nat.zero_le _, Nat.zero_le _⟩ (fun u H locs hw hP hD hS => ?_)
                have hP : va_P G.1 vwCl (wMd G b gc (va_cpy gc gd (34 * (n - 1)) 0 8) gw (p_m8 (p_mrm gf gc i3) gc i3 8) gp ga gb gh gg gx ge (n - 1) k z t kn pl lf pn) H := hP
                have hD : va_D A (wMd G b gc (va_cpy gc gd (34 * (n - 1)) 0 8) gw (p_m8 (p_mrm gf gc i3) gc i3 8) gp ga gb gh gg gx ge (n - 1) k z t kn pl lf pn) := hD
                have hP : va_P G.1 vwCl (wMd G b gc (va_cpy gc gd (34 * (n - 1)) 0 8) gw (p_mrm gf gc (i3 + 1)) gp ga gb gh gg gx ge (n - 1) k z t kn pl lf pn) H := hP
                have hD : va_D A (wMd G b gc (va_cpy gc gd (34 * (n - 1)) 0 8) gw (p_mrm gf gc (i3 + 1)) gp ga gb gh gg gx ge (n - 1) k z t kn pl lf pn) := hD
                refine lv_iinc (v := nI (i3 + 1)) (lv' := [(1, .int (nI (i3 + 1))), (0, .ref (b 0))]) hx hb dX3_drop_90 hl (k := 1) rfl (inc_N i3 1) (by decide) rfl (fun ls hl => ?_)
                refine lv_goto (tgt := 77) hx hb dX3_drop_93 (by decide) ?_
                exact ih3 (i3 + 1) (by omega) (by omega) _ _ _ hP hD hS (lv_sub hl [1, 0] rfl)
          · refine lv_aload_n hx hb dX3_drop_62 rfl (lv_at hl 0 rfl) ?_
            refine va_get (D := G.1) (ci := 3) (v := .ref (b 4)) (C := RX3) (T := TX3) (N := 19) hx hb hts hiX3 hown hK hP 0 rfl rfl 8 (by decide) lk23 (fun _ h9 => h9) rfl dX3_drop_63 ?_
            refine lv_iload_n hx hb dX3_drop_66 rfl (lv_at hl 1 rfl) ?_
            refine lv_iconst (v := nI 0) hx hb dX3_drop_67 (by decide) ?_
            refine wr_z hx hb hK hP hD hS 4 rfl i2 (nI 0) (by first | exact Or.inl rfl | exact Or.inr rfl) (by omega) (by omega) dX3_drop_68 (fun H locs hP hD hS => ?_)
            have hP : va_P G.1 vwCl (wMd G b gc (va_cpy gc gd (34 * (n - 1)) 0 8) gw (upd (p_fill gf 0 i2 (nI 0)) i2 (nI 0)) gp ga gb gh gg gx ge (n - 1) k z t kn pl lf pn) H := hP
            have hD : va_D A (wMd G b gc (va_cpy gc gd (34 * (n - 1)) 0 8) gw (upd (p_fill gf 0 i2 (nI 0)) i2 (nI 0)) gp ga gb gh gg gx ge (n - 1) k z t kn pl lf pn) := hD
            rw [p_fill_s (Nat.zero_le _)] at hP hD
            refine lv_iinc (v := nI (i2 + 1)) (lv' := [(1, .int (nI (i2 + 1))), (0, .ref (b 0))]) hx hb dX3_drop_69 hl (k := 1) rfl (inc_N i2 1) (by decide) rfl (fun ls hl => ?_)
            refine lv_goto (tgt := 55) hx hb dX3_drop_72 (by decide) ?_
            exact ih2 (i2 + 1) (by omega) (by omega) _ _ _ hP hD hS (lv_sub hl [1, 0] rfl)
      · refine lv_aload_n hx hb dX3_drop_27 rfl (lv_at hl 0 rfl) ?_
        refine va_get (D := G.1) (ci := 3) (v := .ref (b 2)) (C := RX3) (T := TX3) (N := 19) hx hb hts hiX3 hown hK hP 0 rfl rfl 2 (by decide) lk13 (fun _ h9 => h9) rfl dX3_drop_28 ?_
        refine lv_iload_n hx hb dX3_drop_31 rfl (lv_at hl 1 rfl) ?_
        refine lv_aload_n hx hb dX3_drop_32 rfl (lv_at hl 0 rfl) ?_
        refine va_get (D := G.1) (ci := 3) (v := .ref (b 1)) (C := RX3) (T := TX3) (N := 19) hx hb hts hiX3 hown hK hP 0 rfl rfl 0 (by decide) lk7 (fun _ h9 => h9) rfl dX3_drop_33 ?_
        refine lv_bipush (v := nI 34) hx hb dX3_drop_36 (by decide) ?_
        refine lv_aload_n hx hb dX3_drop_38 rfl (lv_at hl 0 rfl) ?_
        refine va_get (D := G.1) (ci := 3) (v := .int (nI (n - 1))) (C := RX3) (T := TX3) (N := 19) hx hb hts hiX3 hown hK hP 0 rfl rfl 1 (by decide) lk141 (fun _ h9 => h9) rfl dX3_drop_39 ?_
        refine mu_N hx hb 34 (n - 1) dX3_drop_42 ?_
        refine lv_iload_n hx hb dX3_drop_43 rfl (lv_at hl 1 rfl) ?_
        refine ad_N hx hb (34 * (n - 1)) i1 dX3_drop_44 ?_
        refine rd_i hx hb hK hP 1 rfl ((34 * (n - 1)) + i1) (by omega) (by omega) dX3_drop_45 ?_
        refine wr_i hx hb hK hP hD hS 2 rfl i1 (by omega) (by omega) dX3_drop_46 (fun H locs hP hD hS => ?_)
        have hP : va_P G.1 vwCl (wMd G b gc (upd (va_cpy gc gd (34 * (n - 1)) 0 i1) i1 (gc ((34 * (n - 1)) + i1))) gw gf gp ga gb gh gg gx ge (n - 1) k z t kn pl lf pn) H := hP
        have hD : va_D A (wMd G b gc (upd (va_cpy gc gd (34 * (n - 1)) 0 i1) i1 (gc ((34 * (n - 1)) + i1))) gw gf gp ga gb gh gg gx ge (n - 1) k z t kn pl lf pn) := hD
        rw [show upd (va_cpy gc gd (34 * (n - 1)) 0 i1) i1 (gc (34 * (n - 1) + i1)) = va_cpy gc gd (34 * (n - 1)) 0 (i1 + 1) from cpy_sa] at hP hD
        refine lv_iinc (v := nI (i1 + 1)) (lv' := [(1, .int (nI (i1 + 1))), (0, .ref (b 0))]) hx hb dX3_drop_47 hl (k := 1) rfl (inc_N i1 1) (by decide) rfl (fun ls hl => ?_)
        refine lv_goto (tgt := 21) hx hb dX3_drop_50 (by decide) ?_
        exact ih1 (i1 + 1) (by omega) (by omega) _ _ _ hP hD hS (lv_sub hl [1, 0] rfl)
  · refine lv_iconst (v := (-1)) hx hb dX3_drop_7 (by decide) ?_
    exact ret 8 _ _ _ (-1) (gd, gf, n, t, kn, pl) dX3_drop_8 (Or.inl ⟨c4, rfl, rfl, rfl, rfl, rfl, rfl, rfl⟩) hP hD hS
