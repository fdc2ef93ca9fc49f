theorem hc_M {fc : Nat → Int32} {n j i : Nat} (hj : j < n) (hn : n ≤ 60) : p_hc fc n (nI j) i = fc (34 * j + 26 + i) := by rw [hc_T hj hn, Nat.mul_comm]
set_option maxHeartbeats 4000000 in
set_option maxRecDepth 100000 in
theorem m_isHashOf (l : Launch) (G : gG) (sz : Nat) (b : Nat → Nat) (gc gd gw gf gp ga gb gh gg gx ge : Nat → Int32) (n k z t : Nat) (kn : Int32) (pl lf pn : Nat) (d : Nat) (x : Int32) (hn : n ≤ 60) (hk : k ≤ 8) (hz : z ≤ 20) (ht : t ≤ 100000) (hpl : pl ≤ 60) (hlf : lf ≤ 6) (hpn : pn ≤ 1560) (hga : ∀ j, j < 64 → ga j = st_K j) (hgb : ∀ j, j < 8 → gb j = st_S j) (hd : d + 8 ≤ 2040) (hxx : 0 ≤ x.toInt → p_ok x n = true) : MetI l yX3_isHashOf wsX3_isHashOf ({ frames := 1, cells := 0, slots := 0, locals := 22 } : Room) [.ref (b 0), .int (nI d), .int x] G (wMd G b gc gd gw gf gp ga gb gh gg gx ge n k z t kn pl lf pn) sz (fun _ : Unit => wMd G b gc gd gw gf gp ga gb gh gg gx ge n k z t kn pl lf pn) (fun r _ => r = bI (allN (p_iho gc n x gc d) 8)) := by
  refine ent_z _ cX3_isHashOf 5 RX3 (by decide) rfl rfl (Nat.le_of_ble_eq_true rfl) ?_
  intro p e s m args below meth c A Q ls hx hb hml hts hown hA hK hX ret hl hP hD hS
  have hl : lv_has ls 5 [(0, .ref (b 0)), (1, .int (nI d)), (2, .int x)] := hl
  have lk7 := hts (.fieldLink RX3 7 "MinedLedgerModel" "cells" "[I") (by decide +kernel)
  have hiX3 : ∀ w ∈ wsX30, w ∈ wsX3_isHashOf := by decide +kernel
  refine lv_iconst (v := nI 1) hx hb dX3_isHashOf_0 (by decide) ?_
  refine lv_istore_n (lv' := [(3, .int (nI 1)), (0, .ref (b 0)), (1, .int (nI d)), (2, .int x)]) hx hb dX3_isHashOf_1 rfl hl (by decide) rfl (fun ls hl => ?_)
  refine lv_iconst (v := nI 0) hx hb dX3_isHashOf_2 (by decide) ?_
  refine lv_istore (lv' := [(4, .int (nI 0)), (3, .int (nI 1)), (0, .ref (b 0)), (1, .int (nI d)), (2, .int x)]) hx hb dX3_isHashOf_3 hl (by decide) rfl (fun ls hl => ?_)
  suffices hloop1 : ∀ (fu1 : Nat) (i : Nat) (bb : Bool), (i ≤ 8) → (bb = allN (p_iho gc n x gc d) i) → 8 - i < fu1 → ∀ (H : Heap) (locs : List Loc) (ls : Array Slot), va_P G.1 vwCl (wMd G b gc gd gw gf gp ga gb gh gg gx ge n k z t kn pl lf pn) H → va_D A (wMd G b gc gd gw gf gp ga gb gh gg gx ge n k z t kn pl lf pn) → va_S A s.heap H locs → lv_has ls 5 [(0, .ref (b 0)), (1, .int (nI d)), (2, .int x), (3, .int (bI bb)), (4, .int (nI i))] → W p l e ({ frames := 1, cells := 0, slots := 0, locals := 22 } : Room) s m args below meth c H locs 0 0 Q (F0 m 5 ls []) from hloop1 _ 0 true (Nat.zero_le _) rfl (Nat.lt_succ_self _) _ _ _ hP hD hS (lv_sub hl [2, 3, 4, 1, 0] rfl)
  clear hP hD hS hl
  intro fu1
  induction fu1 with
  | zero => intro i bb hi hbb hfu; exact absurd hfu (Nat.not_lt_zero _)
  | succ fu1 ih1 =>
    intro i bb hi hbb hfu1 H locs ls hP hD hS hl
    refine lv_iload hx hb dX3_isHashOf_5 (lv_at hl 4 rfl) ?_
    refine lv_bipush (v := nI 8) hx hb dX3_isHashOf_7 (by decide) ?_
    refine cmp_ge hx hb i 8 55 (by omega) (by omega) dX3_isHashOf_9 (by decide) (fun c9 => ?_) (fun c9 => ?_)
    · have e55 : i = 8 := by omega
      subst e55
      refine lv_iload_n hx hb dX3_isHashOf_55 rfl (lv_at hl 3 rfl) ?_
      exact ret 56 _ _ _ (bI bb) () dX3_isHashOf_56 (bI_01 _) (by rw [hbb]) hP hD hS
    · refine lv_iload_n hx hb dX3_isHashOf_12 rfl (lv_at hl 3 rfl) ?_
      refine lv_if_eq (tgt := 47) hx hb dX3_isHashOf_13 (by decide) (fun c13 => ?_) (fun c13 => ?_)
      · refine lv_iconst (v := nI 0) hx hb dX3_isHashOf_47 (by decide) ?_
        refine lv_istore_n (lv' := [(3, .int (nI 0)), (0, .ref (b 0)), (1, .int (nI d)), (2, .int x), (4, .int (nI i))]) hx hb dX3_isHashOf_48 rfl hl (by decide) rfl (fun ls hl => ?_)
        refine lv_iinc (v := nI (i + 1)) (lv' := [(4, .int (nI (i + 1))), (3, .int (nI 0)), (0, .ref (b 0)), (1, .int (nI d)), (2, .int x)]) hx hb dX3_isHashOf_49 hl (k := 4) rfl (inc_N i 1) (by decide) rfl (fun ls hl => ?_)
        refine lv_goto (tgt := 5) hx hb dX3_isHashOf_52 (by decide) ?_
        exact ih1 (i + 1) false (by omega) (by rw [allN, ← hbb, bI_z c13]; rfl) (by omega) _ _ _ hP hD hS (lv_sub hl [2, 3, 4, 1, 0] rfl)
      · refine lv_aload_n hx hb dX3_isHashOf_16 rfl (lv_at hl 0 rfl) ?_
        refine va_get (D := G.1) (ci := 3) (v := .ref (b 1)) (C := RX3) (T := TX3) (N := 19) hx hb hts hiX3 hown hK hP 0 rfl rfl 0 (by decide) lk7 (fun _ h9 => h9) rfl dX3_isHashOf_17 ?_
        refine lv_iload_n hx hb dX3_isHashOf_20 rfl (lv_at hl 1 rfl) ?_
        refine lv_iload hx hb dX3_isHashOf_21 (lv_at hl 4 rfl) ?_
        refine ad_N hx hb d i dX3_isHashOf_23 ?_
        refine rd_i hx hb hK hP 1 rfl (d + i) (by omega) (by omega) dX3_isHashOf_24 ?_
        refine lv_iload_n hx hb dX3_isHashOf_25 rfl (lv_at hl 2 rfl) ?_
        refine ifz_ge hx hb x 33 dX3_isHashOf_26 (by decide) (fun c26 => ?_) (fun c26 => ?_)
        · obtain ⟨j, hj, rfl⟩ := ok_of (by omega) (hxx c26)
          refine lv_aload_n hx hb dX3_isHashOf_33 rfl (lv_at hl 0 rfl) ?_
          refine lv_iload_n hx hb dX3_isHashOf_34 rfl (lv_at hl 2 rfl) ?_
          refine lv_iload hx hb dX3_isHashOf_35 (lv_at hl 4 rfl) ?_
          refine call_Vi (wr := ([] : va_W)) [.int (nI j), .int (nI i)] [.int (gc (d + i))] ⟨hx, hb, hml, hown, hts⟩ hK hX hA hP hD hS (m_hashCell l G _ b gc gd gw gf gp ga gb gh gg gx ge n k z t kn pl lf pn j i (by omega) (by omega) (by omega) (by omega) (by omega) (by omega) (by omega) hga hgb (by omega) (by omega)) (cwV 2 hts gX3_isHashOf_X3_hashCell rfl rfl rfl (by decide +kernel) ⟨Nat.le_of_ble_eq_true rfl, Nat.le_of_ble_eq_true rfl⟩) 3 0 rfl rfl rfl [0, 1, 2, 3, 4, 5, 6, 7, 8, 9, 10, 11] [] rfl rfl (by decide) (by decide) (by decide) rfl hl.1 (Nat.le_of_ble_eq_true rfl) dX3_isHashOf_37 ⟨Nat.zero_le _, Nat.zero_le _⟩ (fun r_4 u H locs hw hP hD hS => ?_)
          obtain rfl := hw
          have hP : va_P G.1 vwCl (wMd G b gc gd gw gf gp ga gb gh gg gx ge n k z t kn pl lf pn) H := hP
          have hD : va_D A (wMd G b gc gd gw gf gp ga gb gh gg gx ge n k z t kn pl lf pn) := hD
          refine lv_icmp_ne (tgt := 47) hx hb dX3_isHashOf_40 (by decide) (fun c40 => ?_) (fun c40 => ?_)
          · refine lv_iconst (v := nI 0) hx hb dX3_isHashOf_47 (by decide) ?_
            refine lv_istore_n (lv' := [(3, .int (nI 0)), (0, .ref (b 0)), (1, .int (nI d)), (2, .int (nI j)), (4, .int (nI i))]) hx hb dX3_isHashOf_48 rfl hl (by decide) rfl (fun ls hl => ?_)
            refine lv_iinc (v := nI (i + 1)) (lv' := [(4, .int (nI (i + 1))), (3, .int (nI 0)), (0, .ref (b 0)), (1, .int (nI d)), (2, .int (nI j))]) hx hb dX3_isHashOf_49 hl (k := 4) rfl (inc_N i 1) (by decide) rfl (fun ls hl => ?_)
            refine lv_goto (tgt := 5) hx hb dX3_isHashOf_52 (by decide) ?_
            exact ih1 (i + 1) false (by omega) (by rw [allN, ← hbb, bI_n c13]; exact (decide_eq_false (fun z => c40 (z.trans (hc_M hj hn)))).symm) (by omega) _ _ _ hP hD hS (lv_sub hl [2, 3, 4, 1, 0] rfl)
          · refine lv_iconst (v := nI 1) hx hb dX3_isHashOf_43 (by decide) ?_
            refine lv_goto (tgt := 48) hx hb dX3_isHashOf_44 (by decide) ?_
            refine lv_istore_n (lv' := [(3, .int (nI 1)), (0, .ref (b 0)), (1, .int (nI d)), (2, .int (nI j)), (4, .int (nI i))]) hx hb dX3_isHashOf_48 rfl hl (by decide) rfl (fun ls hl => ?_)
            refine lv_iinc (v := nI (i + 1)) (lv' := [(4, .int (nI (i + 1))), (3, .int (nI 1)), (0, .ref (b 0)), (1, .int (nI d)), (2, .int (nI j))]) hx hb dX3_isHashOf_49 hl (k := 4) rfl (inc_N i 1) (by decide) rfl (fun ls hl => ?_)
            refine lv_goto (tgt := 5) hx hb dX3_isHashOf_52 (by decide) ?_
            exact ih1 (i + 1) true (by omega) (by rw [allN, ← hbb, bI_n c13]; exact (decide_eq_true (c40.trans (hc_M hj hn).symm)).symm) (by omega) _ _ _ hP hD hS (lv_sub hl [2, 3, 4, 1, 0] rfl)
        · refine lv_iconst (v := nI 0) hx hb dX3_isHashOf_29 (by decide) ?_
          refine lv_goto (tgt := 40) hx hb dX3_isHashOf_30 (by decide) ?_
          refine lv_icmp_ne (tgt := 47) hx hb dX3_isHashOf_40 (by decide) (fun c40 => ?_) (fun c40 => ?_)
          · refine lv_iconst (v := nI 0) hx hb dX3_isHashOf_47 (by decide) ?_
            refine lv_istore_n (lv' := [(3, .int (nI 0)), (0, .ref (b 0)), (1, .int (nI d)), (2, .int x), (4, .int (nI i))]) hx hb dX3_isHashOf_48 rfl hl (by decide) rfl (fun ls hl => ?_)
            refine lv_iinc (v := nI (i + 1)) (lv' := [(4, .int (nI (i + 1))), (3, .int (nI 0)), (0, .ref (b 0)), (1, .int (nI d)), (2, .int x)]) hx hb dX3_isHashOf_49 hl (k := 4) rfl (inc_N i 1) (by decide) rfl (fun ls hl => ?_)
            refine lv_goto (tgt := 5) hx hb dX3_isHashOf_52 (by decide) ?_
            exact ih1 (i + 1) false (by omega) (by rw [allN, ← hbb, bI_n c13]; exact (decide_eq_false (fun z => c40 (z.trans (hc_F (ok_F (Or.inl c26)))))).symm) (by omega) _ _ _ hP hD hS (lv_sub hl [2, 3, 4, 1, 0] rfl)
          · refine lv_iconst (v := nI 1) hx hb dX3_isHashOf_43 (by decide) ?_
            refine lv_goto (tgt := 48) hx hb dX3_isHashOf_44 (by decide) ?_
            refine lv_istore_n (lv' := [(3, .int (nI 1)), (0, .ref (b 0)), (1, .int (nI d)), (2, .int x), (4, .int (nI i))]) hx hb dX3_isHashOf_48 rfl hl (by decide) rfl (fun ls hl => ?_)
            refine lv_iinc (v := nI (i + 1)) (lv' := [(4, .int (nI (i + 1))), (3, .int (nI 1)), (0, .ref (b 0)), (1, .int (nI d)), (2, .int x)]) hx hb dX3_isHashOf_49 hl (k := 4) rfl (inc_N i 1) (by decide) rfl (fun ls hl => ?_)
            refine lv_goto (tgt := 5) hx hb dX3_isHashOf_52 (by decide) ?_
            exact ih1 (i + 1) true (by omega) (by rw [allN, ← hbb, bI_n c13]; exact (decide_eq_true (c40.trans (hc_F (ok_F (Or.inl c26))).symm)).symm) (by omega) _ _ _ hP hD hS (lv_sub hl [2, 3, 4, 1, 0] rfl)
theorem hdr_F {gc : Nat → Int32} {n i : Nat} (h : n = 0) : p_hc gc n (nI n - nI 1) i = nI 0 := by subst h; exact hc_F (ok_F (Or.inl (by decide)))
theorem hdr_T {gc : Nat → Int32} {n i : Nat} (h : 0 < n) (hn : n ≤ 60) : p_hc gc n (nI n - nI 1) i = gc (34 * (n - 1) + 26 + i) := by
  rw [pk_sub (show 1 ≤ n by omega), hc_T (by omega) hn, Nat.mul_comm]
theorem m1_ok {y n : Nat} (hy : y < n) (hn : n ≤ 60) : 0 ≤ (nI y - nI 1).toInt → p_ok (nI y - nI 1) n = true := by
  intro h
  by_cases q : y = 0
  · subst q; exact absurd h (by decide)
  · rw [pk_sub (show 1 ≤ y by omega), ok_N (by omega)]; exact decide_eq_true (by omega)
theorem skI_ok {y n : Nat} (hy : y < n) (hn : n ≤ 60) : 0 ≤ (p_skI y).toInt → p_ok (p_skI y) n = true := by
  intro h
  by_cases q : y = 0
  · rw [p_skI, if_pos q] at h; exact absurd h (by decide)
  · have := sk_lt y (by omega) (by omega)
    rw [p_skI, if_neg q, ok_N (by omega)]; exact decide_eq_true (by omega)
set_option maxHeartbeats 4000000 in
set_option maxRecDepth 100000 in
theorem m_isHeadRight (l : Launch) (G : gG) (sz : Nat) (b : Nat → Nat) (gc gd gw gf gp ga gb gh gg gx ge : Nat → Int32) (n k z t : Nat) (kn : Int32) (pl lf pn : Nat)  (hn : n ≤ 60) (hk : k ≤ 8) (hz : z ≤ 20) (ht : t ≤ 100000) (hpl : pl ≤ 60) (hlf : lf ≤ 6) (hpn : pn ≤ 1560) (hga : ∀ j, j < 64 → ga j = st_K j) (hgb : ∀ j, j < 8 → gb j = st_S j)  : MetI l yX3_isHeadRight wsX3_isHeadRight ({ frames := 1, cells := 0, slots := 0, locals := 22 } : Room) [.ref (b 0)] G (wMd G b gc gd gw gf gp ga gb gh gg gx ge n k z t kn pl lf pn) sz (fun _ : Unit => wMd G b gc gd gw gf gp ga gb gh gg gx ge n k z t kn pl lf pn) (fun r _ => r = bI (p_hdr gc gd n)) := by
  refine ent_z _ cX3_isHeadRight 3 RX3 (by decide) rfl rfl (Nat.le_of_ble_eq_true rfl) ?_
  intro p e s m args below meth c A Q ls hx hb hml hts hown hA hK hX ret hl hP hD hS
  have hl : lv_has ls 3 [(0, .ref (b 0))] := hl
  have lk13 := hts (.fieldLink RX3 13 "MinedLedgerModel" "head" "[I") (by decide +kernel)
  have lk141 := hts (.fieldLink RX3 141 "MinedLedgerModel" "count" "I") (by decide +kernel)
  have hiX3 : ∀ w ∈ wsX30, w ∈ wsX3_isHeadRight := by decide +kernel
  refine lv_iconst (v := nI 1) hx hb dX3_isHeadRight_0 (by decide) ?_
  refine lv_istore_n (lv' := [(1, .int (nI 1)), (0, .ref (b 0))]) hx hb dX3_isHeadRight_1 rfl hl (by decide) rfl (fun ls hl => ?_)
  refine lv_iconst (v := nI 0) hx hb dX3_isHeadRight_2 (by decide) ?_
  refine lv_istore_n (lv' := [(2, .int (nI 0)), (1, .int (nI 1)), (0, .ref (b 0))]) hx hb dX3_isHeadRight_3 rfl hl (by decide) rfl (fun ls hl => ?_)
  suffices hloop1 : ∀ (fu1 : Nat) (i : Nat) (bb : Bool), (i ≤ 8) → (bb = allN (p_iho gc n (nI n - nI 1) gd 0) i) → 8 - i < fu1 → ∀ (H : Heap) (locs : List Loc) (ls : Array Slot), va_P G.1 vwCl (wMd G b gc gd gw gf gp ga gb gh gg gx ge n k z t kn pl lf pn) H → va_D A (wMd G b gc gd gw gf gp ga gb gh gg gx ge n k z t kn pl lf pn) → va_S A s.heap H locs → lv_has ls 3 [(0, .ref (b 0)), (1, .int (bI bb)), (2, .int (nI i))] → W p l e ({ frames := 1, cells := 0, slots := 0, locals := 22 } : Room) s m args below meth c H locs 0 0 Q (F0 m 4 ls []) from hloop1 _ 0 true (Nat.zero_le _) rfl (Nat.lt_succ_self _) _ _ _ hP hD hS (lv_sub hl [2, 1, 0] rfl)
  clear hP hD hS hl
  intro fu1
  induction fu1 with
  | zero => intro i bb hi hbb hfu; exact absurd hfu (Nat.not_lt_zero _)
  | succ fu1 ih1 =>
    intro i bb hi hbb hfu1 H locs ls hP hD hS hl
    refine lv_iload_n hx hb dX3_isHeadRight_4 rfl (lv_at hl 2 rfl) ?_
    refine lv_bipush (v := nI 8) hx hb dX3_isHeadRight_5 (by decide) ?_
    refine cmp_ge hx hb i 8 57 (by omega) (by omega) dX3_isHeadRight_7 (by decide) (fun c7 => ?_) (fun c7 => ?_)
    · have e57 : i = 8 := by omega
      subst e57
      refine lv_iload_n hx hb dX3_isHeadRight_57 rfl (lv_at hl 1 rfl) ?_
      exact ret 58 _ _ _ (bI bb) () dX3_isHeadRight_58 (bI_01 _) (by rw [hbb]) hP hD hS
    · refine lv_iload_n hx hb dX3_isHeadRight_10 rfl (lv_at hl 1 rfl) ?_
      refine lv_if_eq (tgt := 49) hx hb dX3_isHeadRight_11 (by decide) (fun c11 => ?_) (fun c11 => ?_)
      · refine lv_iconst (v := nI 0) hx hb dX3_isHeadRight_49 (by decide) ?_
        refine lv_istore_n (lv' := [(1, .int (nI 0)), (0, .ref (b 0)), (2, .int (nI i))]) hx hb dX3_isHeadRight_50 rfl hl (by decide) rfl (fun ls hl => ?_)
        refine lv_iinc (v := nI (i + 1)) (lv' := [(2, .int (nI (i + 1))), (1, .int (nI 0)), (0, .ref (b 0))]) hx hb dX3_isHeadRight_51 hl (k := 2) rfl (inc_N i 1) (by decide) rfl (fun ls hl => ?_)
        refine lv_goto (tgt := 4) hx hb dX3_isHeadRight_54 (by decide) ?_
        exact ih1 (i + 1) false (by omega) (by rw [allN, ← hbb, bI_z c11]; rfl) (by omega) _ _ _ hP hD hS (lv_sub hl [2, 1, 0] rfl)
      · refine lv_aload_n hx hb dX3_isHeadRight_14 rfl (lv_at hl 0 rfl) ?_
        refine va_get (D := G.1) (ci := 3) (v := .ref (b 2)) (C := RX3) (T := TX3) (N := 19) hx hb hts hiX3 hown hK hP 0 rfl rfl 2 (by decide) lk13 (fun _ h9 => h9) rfl dX3_isHeadRight_15 ?_
        refine lv_iload_n hx hb dX3_isHeadRight_18 rfl (lv_at hl 2 rfl) ?_
        refine rd_i hx hb hK hP 2 rfl i (by omega) (by omega) dX3_isHeadRight_19 ?_
        refine lv_aload_n hx hb dX3_isHeadRight_20 rfl (lv_at hl 0 rfl) ?_
        refine va_get (D := G.1) (ci := 3) (v := .int (nI n)) (C := RX3) (T := TX3) (N := 19) hx hb hts hiX3 hown hK hP 0 rfl rfl 1 (by decide) lk141 (fun _ h9 => h9) rfl dX3_isHeadRight_21 ?_
        refine if0_ne hx hb n 31 (by omega) dX3_isHeadRight_24 (by decide) (fun c24 => ?_) (fun c24 => ?_)
        · refine lv_aload_n hx hb dX3_isHeadRight_31 rfl (lv_at hl 0 rfl) ?_
          refine lv_aload_n hx hb dX3_isHeadRight_32 rfl (lv_at hl 0 rfl) ?_
          refine va_get (D := G.1) (ci := 3) (v := .int (nI n)) (C := RX3) (T := TX3) (N := 19) hx hb hts hiX3 hown hK hP 0 rfl rfl 1 (by decide) lk141 (fun _ h9 => h9) rfl dX3_isHeadRight_33 ?_
          refine lv_iconst (v := nI 1) hx hb dX3_isHeadRight_36 (by decide) ?_
          refine su_N hx hb n 1 (by omega) dX3_isHeadRight_37 ?_
          refine lv_iload_n hx hb dX3_isHeadRight_38 rfl (lv_at hl 2 rfl) ?_
          refine call_Vi (wr := ([] : va_W)) [.int (nI (n - 1)), .int (nI i)] [.int (gd i)] ⟨hx, hb, hml, hown, hts⟩ hK hX hA hP hD hS (m_hashCell l G _ b gc gd gw gf gp ga gb gh gg gx ge n k z t kn pl lf pn (n - 1) i (by omega) (by omega) (by omega) (by omega) (by omega) (by omega) (by omega) hga hgb (by omega) (by omega)) (cwV 2 hts gX3_isHeadRight_X3_hashCell rfl rfl rfl (by decide +kernel) ⟨Nat.le_of_ble_eq_true rfl, Nat.le_of_ble_eq_true rfl⟩) 3 0 rfl rfl rfl [0, 1, 2, 3, 4, 5, 6, 7, 8, 9, 10, 11] [] rfl rfl (by decide) (by decide) (by decide) rfl hl.1 (Nat.le_of_ble_eq_true rfl) dX3_isHeadRight_39 ⟨Nat.zero_le _, Nat.zero_le _⟩ (fun r_4 u H locs hw hP hD hS => ?_)
          obtain rfl := hw
          have hP : va_P G.1 vwCl (wMd G b gc gd gw gf gp ga gb gh gg gx ge n k z t kn pl lf pn) H := hP
          have hD : va_D A (wMd G b gc gd gw gf gp ga gb gh gg gx ge n k z t kn pl lf pn) := hD
          refine lv_icmp_ne (tgt := 49) hx hb dX3_isHeadRight_42 (by decide) (fun c42 => ?_) (fun c42 => ?_)
          · refine lv_iconst (v := nI 0) hx hb dX3_isHeadRight_49 (by decide) ?_
            refine lv_istore_n (lv' := [(1, .int (nI 0)), (0, .ref (b 0)), (2, .int (nI i))]) hx hb dX3_isHeadRight_50 rfl hl (by decide) rfl (fun ls hl => ?_)
            refine lv_iinc (v := nI (i + 1)) (lv' := [(2, .int (nI (i + 1))), (1, .int (nI 0)), (0, .ref (b 0))]) hx hb dX3_isHeadRight_51 hl (k := 2) rfl (inc_N i 1) (by decide) rfl (fun ls hl => ?_)
            refine lv_goto (tgt := 4) hx hb dX3_isHeadRight_54 (by decide) ?_
            exact ih1 (i + 1) false (by omega) (by rw [allN, ← hbb, bI_n c11]; exact (decide_eq_false (fun z => c42 (by rw [Nat.zero_add] at z; exact z.trans (hdr_T c24 hn)))).symm) (by omega) _ _ _ hP hD hS (lv_sub hl [2, 1, 0] rfl)
          · refine lv_iconst (v := nI 1) hx hb dX3_isHeadRight_45 (by decide) ?_
            refine lv_goto (tgt := 50) hx hb dX3_isHeadRight_46 (by decide) ?_
            refine lv_istore_n (lv' := [(1, .int (nI 1)), (0, .ref (b 0)), (2, .int (nI i))]) hx hb dX3_isHeadRight_50 rfl hl (by decide) rfl (fun ls hl => ?_)
            refine lv_iinc (v := nI (i + 1)) (lv' := [(2, .int (nI (i + 1))), (1, .int (nI 1)), (0, .ref (b 0))]) hx hb dX3_isHeadRight_51 hl (k := 2) rfl (inc_N i 1) (by decide) rfl (fun ls hl => ?_)
            refine lv_goto (tgt := 4) hx hb dX3_isHeadRight_54 (by decide) ?_
            exact ih1 (i + 1) true (by omega) (by rw [allN, ← hbb, bI_n c11]; exact (decide_eq_true (by rw [Nat.zero_add]; exact c42.trans (hdr_T c24 hn).symm)).symm) (by omega) _ _ _ hP hD hS (lv_sub hl [2, 1, 0] rfl)
        · refine lv_iconst (v := nI 0) hx hb dX3_isHeadRight_27 (by decide) ?_
          refine lv_goto (tgt := 42) hx hb dX3_isHeadRight_28 (by decide) ?_
          refine lv_icmp_ne (tgt := 49) hx hb dX3_isHeadRight_42 (by decide) (fun c42 => ?_) (fun c42 => ?_)
          · refine lv_iconst (v := nI 0) hx hb dX3_isHeadRight_49 (by decide) ?_
            refine lv_istore_n (lv' := [(1, .int (nI 0)), (0, .ref (b 0)), (2, .int (nI i))]) hx hb dX3_isHeadRight_50 rfl hl (by decide) rfl (fun ls hl => ?_)
            refine lv_iinc (v := nI (i + 1)) (lv' := [(2, .int (nI (i + 1))), (1, .int (nI 0)), (0, .ref (b 0))]) hx hb dX3_isHeadRight_51 hl (k := 2) rfl (inc_N i 1) (by decide) rfl (fun ls hl => ?_)
            refine lv_goto (tgt := 4) hx hb dX3_isHeadRight_54 (by decide) ?_
            exact ih1 (i + 1) false (by omega) (by rw [allN, ← hbb, bI_n c11]; exact (decide_eq_false (fun z => c42 (by rw [Nat.zero_add] at z; exact z.trans (hdr_F c24)))).symm) (by omega) _ _ _ hP hD hS (lv_sub hl [2, 1, 0] rfl)
          · refine lv_iconst (v := nI 1) hx hb dX3_isHeadRight_45 (by decide) ?_
            refine lv_goto (tgt := 50) hx hb dX3_isHeadRight_46 (by decide) ?_
            refine lv_istore_n (lv' := [(1, .int (nI 1)), (0, .ref (b 0)), (2, .int (nI i))]) hx hb dX3_isHeadRight_50 rfl hl (by decide) rfl (fun ls hl => ?_)
            refine lv_iinc (v := nI (i + 1)) (lv' := [(2, .int (nI (i + 1))), (1, .int (nI 1)), (0, .ref (b 0))]) hx hb dX3_isHeadRight_51 hl (k := 2) rfl (inc_N i 1) (by decide) rfl (fun ls hl => ?_)
            refine lv_goto (tgt := 4) hx hb dX3_isHeadRight_54 (by decide) ?_
            exact ih1 (i + 1) true (by omega) (by rw [allN, ← hbb, bI_n c11]; exact (decide_eq_true (by rw [Nat.zero_add]; exact c42.trans (hdr_F c24).symm)).symm) (by omega) _ _ _ hP hD hS (lv_sub hl [2, 1, 0] rfl)
set_option maxHeartbeats 4000000 in
set_option maxRecDepth 100000 in
theorem m_faultOf (l : Launch) (G : gG) (sz : Nat) (b : Nat → Nat) (gc gd gw gf gp ga gb gh gg gx ge : Nat → Int32) (n k z t : Nat) (kn : Int32) (pl lf pn : Nat) (y : Nat) (hn : n ≤ 60) (hk : k ≤ 8) (hz : z ≤ 20) (ht : t ≤ 100000) (hpl : pl ≤ 60) (hlf : lf ≤ 6) (hpn : pn ≤ 1560) (hga : ∀ j, j < 64 → ga j = st_K j) (hgb : ∀ j, j < 8 → gb j = st_S j) (hy : y < n) : MetI l yX3_faultOf wsX3_faultOf ({ frames := 3, cells := 0, slots := 0, locals := 73 } : Room) [.ref (b 0), .int (nI y)] G (wMd G b gc gd gw gf gp ga gb gh gg gx ge n k z t kn pl lf pn) sz (fun u : (Nat → Int32) × (Nat → Int32) × (Nat → Int32) × (Nat → Int32) => wMd G b gc gd gw gf gp ga gb u.1 u.2.1 u.2.2.1 u.2.2.2 n k z t kn pl lf pn) (fun r u => (fun r _ _ _ _ => r = nI (p_flt gc n y)) r u.1 u.2.1 u.2.2.1 u.2.2.2) := by
  refine ent_i _ cX3_faultOf 3 RX3 (by decide) rfl rfl (Nat.le_of_ble_eq_true rfl) ?_
  intro p e s m args below meth c A Q ls hx hb hml hts hown hA hK hX ret hl hP hD hS
  have hl : lv_has ls 3 [(0, .ref (b 0)), (1, .int (nI y))] := hl
  have lk7 := hts (.fieldLink RX3 7 "MinedLedgerModel" "cells" "[I") (by decide +kernel)
  have lk36 := hts (.fieldLink RX3 36 "MinedLedgerModel" "h" "[I") (by decide +kernel)
  have lk45 := hts (.fieldLink RX3 45 "MinedLedgerModel" "entry" "[I") (by decide +kernel)
  have hiX3 : ∀ w ∈ wsX30, w ∈ wsX3_faultOf := by decide +kernel
  refine lv_aload_n hx hb dX3_faultOf_0 rfl (lv_at hl 0 rfl) ?_
  refine lv_bipush (v := nI 34) hx hb dX3_faultOf_1 (by decide) ?_
  refine lv_iload_n hx hb dX3_faultOf_3 rfl (lv_at hl 1 rfl) ?_
  refine mu_N hx hb 34 y dX3_faultOf_4 ?_
  refine lv_iload_n hx hb dX3_faultOf_5 rfl (lv_at hl 1 rfl) ?_
  refine lv_iconst (v := nI 1) hx hb dX3_faultOf_6 (by decide) ?_
  refine lv_isub hx hb dX3_faultOf_7 ?_
  refine call_Vi (wr := ([] : va_W)) [.int (nI (34 * y)), .int (nI y - nI 1)] [] ⟨hx, hb, hml, hown, hts⟩ hK hX hA hP hD hS (m_isHashOf l G _ b gc gd gw gf gp ga gb gh gg gx ge n k z t kn pl lf pn (34 * y) (nI y - nI 1) (by omega) (by omega) (by omega) (by omega) (by omega) (by omega) (by omega) hga hgb (by omega) (m1_ok hy hn)) (cwV 2 hts gX3_faultOf_X3_isHashOf rfl rfl rfl (by decide +kernel) ⟨Nat.le_of_ble_eq_true rfl, Nat.le_of_ble_eq_true rfl⟩) 3 0 rfl rfl rfl [0, 1, 2, 3, 4, 5, 6, 7, 8, 9, 10, 11] [] rfl rfl (by decide) (by decide) (by decide) rfl hl.1 (Nat.le_of_ble_eq_true rfl) dX3_faultOf_8 ⟨Nat.zero_le _, Nat.zero_le _⟩ (fun r_1 u H locs hw hP hD hS => ?_)
  obtain rfl := hw
  have hP : va_P G.1 vwCl (wMd G b gc gd gw gf gp ga gb gh gg gx ge n k z t kn pl lf pn) H := hP
  have hD : va_D A (wMd G b gc gd gw gf gp ga gb gh gg gx ge n k z t kn pl lf pn) := hD
  refine lv_if_ne (tgt := 16) hx hb dX3_faultOf_11 (by decide) (fun c11 => ?_) (fun c11 => ?_)
  · refine lv_aload_n hx hb dX3_faultOf_16 rfl (lv_at hl 0 rfl) ?_
    refine lv_bipush (v := nI 34) hx hb dX3_faultOf_17 (by decide) ?_
    refine lv_iload_n hx hb dX3_faultOf_19 rfl (lv_at hl 1 rfl) ?_
    refine mu_N hx hb 34 y dX3_faultOf_20 ?_
    refine lv_bipush (v := nI 8) hx hb dX3_faultOf_21 (by decide) ?_
    refine ad_N hx hb (34 * y) 8 dX3_faultOf_23 ?_
    refine lv_iload_n hx hb dX3_faultOf_24 rfl (lv_at hl 1 rfl) ?_
    refine if0_ne hx hb y 32 (by omega) dX3_faultOf_25 (by decide) (fun c25 => ?_) (fun c25 => ?_)
    · refine lv_iload_n hx hb dX3_faultOf_32 rfl (lv_at hl 1 rfl) ?_
      refine lv_iload_n hx hb dX3_faultOf_33 rfl (lv_at hl 1 rfl) ?_
      refine call_Si (wr := ([(b 0, .inr (3, [.ref (b 1), .int (nI n), .ref (b 2), .ref (b 3), .int (nI k), .int (nI z), .int (nI t), .int kn, .ref (b 4), .int (nI pl), .int (nI lf), .ref (b 5), .int (nI pn), .ref (b 6), .ref (b 7), .ref (b 8), .ref (b 9), .ref (b 10), .ref (b 11)])), (b 1, .inl (G.2.2.1, 2040, .inl gc)), (b 2, .inl (G.2.2.1, 8, .inl gd)), (b 3, .inl (G.2.2.1, 8, .inl gw)), (b 4, .inl (G.2.2.2, 1024, .inl gf)), (b 5, .inl (G.2.2.1, 1600, .inl gp)), (b 6, .inl (G.2.2.1, 64, .inl ga)), (b 7, .inl (G.2.2.1, 8, .inl gb)), (b 8, .inl (G.2.2.1, 8, .inl gh)), (b 9, .inl (G.2.2.1, 8, .inl gg)), (b 10, .inl (G.2.2.1, 64, .inl gx)), (b 11, .inl (G.2.2.1, 26, .inl ge))] : va_W)) [.int (nI y)] [.int (nI y), .int (nI ((34 * y) + 8)), .ref (b 0)] ⟨hx, hb, hml, hown, hts⟩ hK hX hA hP hD hS (m_lowest l G _ (nI y)) (va_cwS 1 hts gX3_faultOf_X3_lowest rfl rfl rfl (by decide +kernel) ⟨Nat.le_of_ble_eq_true rfl, Nat.le_of_ble_eq_true rfl⟩) [] [0, 1, 2, 3, 4, 5, 6, 7, 8, 9, 10, 11] rfl rfl (by decide) (by decide) (by decide) rfl hl.1 (Nat.le_of_ble_eq_true rfl) dX3_faultOf_34 ⟨Nat.zero_le _, Nat.zero_le _⟩ (fun r_4 u H locs hw hP hD hS => ?_)
      obtain rfl := hw
      have hP : va_P G.1 vwCl (wMd G b gc gd gw gf gp ga gb gh gg gx ge n k z t kn pl lf pn) H := hP
      have hD : va_D A (wMd G b gc gd gw gf gp ga gb gh gg gx ge n k z t kn pl lf pn) := hD
      refine lv_isub hx hb dX3_faultOf_37 ?_
      refine top_i (p_skI y) (by rw [p_skI, if_neg (by omega)]; exact sk_eq y (by omega)) ?_
      refine call_Vi (wr := ([] : va_W)) [.int (nI ((34 * y) + 8)), .int (p_skI y)] [] ⟨hx, hb, hml, hown, hts⟩ hK hX hA hP hD hS (m_isHashOf l G _ b gc gd gw gf gp ga gb gh gg gx ge n k z t kn pl lf pn ((34 * y) + 8) (p_skI y) (by omega) (by omega) (by omega) (by omega) (by omega) (by omega) (by omega) hga hgb (by omega) (skI_ok hy hn)) (cwV 2 hts gX3_faultOf_X3_isHashOf rfl rfl rfl (by decide +kernel) ⟨Nat.le_of_ble_eq_true rfl, Nat.le_of_ble_eq_true rfl⟩) 3 0 rfl rfl rfl [0, 1, 2, 3, 4, 5, 6, 7, 8, 9, 10, 11] [] rfl rfl (by decide) (by decide) (by decide) rfl hl.1 (Nat.le_of_ble_eq_true rfl) dX3_faultOf_38 ⟨Nat.zero_le _, Nat.zero_le _⟩ (fun r_5 u H locs hw hP hD hS => ?_)
      obtain rfl := hw
      have hP : va_P G.1 vwCl (wMd G b gc gd gw gf gp ga gb gh gg gx ge n k z t kn pl lf pn) H := hP
      have hD : va_D A (wMd G b gc gd gw gf gp ga gb gh gg gx ge n k z t kn pl lf pn) := hD
      refine lv_if_ne (tgt := 46) hx hb dX3_faultOf_41 (by decide) (fun c41 => ?_) (fun c41 => ?_)
      · refine lv_iconst (v := nI 0) hx hb dX3_faultOf_46 (by decide) ?_
        refine lv_istore_n (lv' := [(2, .int (nI 0)), (0, .ref (b 0)), (1, .int (nI y))]) hx hb dX3_faultOf_47 rfl hl (by decide) rfl (fun ls hl => ?_)
        have hP : va_P G.1 vwCl (wMd G b gc gd gw gf gp ga gb gh gg gx (va_cpy gc ge (34 * y) 0 0) n k z t kn pl lf pn) H := by rw [cpy_n0]; exact hP
        have hD : va_D A (wMd G b gc gd gw gf gp ga gb gh gg gx (va_cpy gc ge (34 * y) 0 0) n k z t kn pl lf pn) := by rw [cpy_n0]; exact hD
        suffices hloop1 : ∀ (fu1 : Nat) (i1 : Nat), (i1 ≤ 26) → 26 - i1 < fu1 → ∀ (H : Heap) (locs : List Loc) (ls : Array Slot), va_P G.1 vwCl (wMd G b gc gd gw gf gp ga gb gh gg gx (va_cpy gc ge (34 * y) 0 i1) n k z t kn pl lf pn) H → va_D A (wMd G b gc gd gw gf gp ga gb gh gg gx (va_cpy gc ge (34 * y) 0 i1) n k z t kn pl lf pn) → va_S A s.heap H locs → lv_has ls 3 [(0, .ref (b 0)), (1, .int (nI y)), (2, .int (nI i1))] → W p l e ({ frames := 3, cells := 0, slots := 0, locals := 73 } : Room) s m args below meth c H locs 0 0 Q (F0 m 48 ls []) from hloop1 _ 0 (Nat.zero_le _) (Nat.lt_succ_self _) _ _ _ hP hD hS (lv_sub hl [1, 2, 0] rfl)
        clear hP hD hS hl
        intro fu1
        induction fu1 with
        | zero => intro i1 hi1 hfu; exact absurd hfu (Nat.not_lt_zero _)
        | succ fu1 ih1 =>
          intro i1 hi1 hfu1 H locs ls hP hD hS hl
          refine lv_iload_n hx hb dX3_faultOf_48 rfl (lv_at hl 2 rfl) ?_
          refine lv_bipush (v := nI 26) hx hb dX3_faultOf_49 (by decide) ?_
          refine cmp_ge hx hb i1 26 77 (by omega) (by omega) dX3_faultOf_51 (by decide) (fun c51 => ?_) (fun c51 => ?_)
          · have e77 : i1 = 26 := by omega
            subst e77
            refine lv_aload_n hx hb dX3_faultOf_77 rfl (lv_at hl 0 rfl) ?_
            refine call_Vv (wr := ([] : va_W)) [] [] ⟨hx, hb, hml, hown, hts⟩ hK hX hA hP hD hS (m_mixFirst l G _ b gc gd gw gf gp ga gb gh gg gx (va_cpy gc ge (34 * y) 0 26) n k z t kn pl lf pn  (by omega) (by omega) (by omega) (by omega) (by omega) (by omega) (by omega) hga hgb) (cwV 0 hts gX3_faultOf_X3_mixFirst rfl rfl rfl (by decide +kernel) ⟨Nat.le_of_ble_eq_true rfl, Nat.le_of_ble_eq_true rfl⟩) 3 0 rfl rfl rfl [0, 1, 2, 3, 4, 5, 6, 7, 8, 9, 10, 11] [] rfl rfl (by decide) (by decide) (by decide) rfl hl.1 (Nat.le_of_ble_eq_true rfl) dX3_faultOf_78 ⟨Nat.zero_le _, Nat.zero_le _⟩ (fun u H locs hw hP hD hS => ?_)
            obtain ⟨hu_9, gu_9, xu_9⟩ := u
            have qu_9 : ∀ j, j < 8 → gu_9 j = p_h1 (va_cpy gc ge (34 * y) 0 26) 0 j := hw
            have hP : va_P G.1 vwCl (wMd G b gc gd gw gf gp ga gb hu_9 gu_9 xu_9 (va_cpy gc ge (34 * y) 0 26) n k z t kn pl lf pn) H := hP
            have hD : va_D A (wMd G b gc gd gw gf gp ga gb hu_9 gu_9 xu_9 (va_cpy gc ge (34 * y) 0 26) n k z t kn pl lf pn) := hD
            refine lv_aload_n hx hb dX3_faultOf_81 rfl (lv_at hl 0 rfl) ?_
            refine call_Vv (wr := ([] : va_W)) [] [] ⟨hx, hb, hml, hown, hts⟩ hK hX hA hP hD hS (m_mixSecond l G _ b gc gd gw gf gp ga gb hu_9 gu_9 xu_9 (va_cpy gc ge (34 * y) 0 26) n k z t kn pl lf pn  (by omega) (by omega) (by omega) (by omega) (by omega) (by omega) (by omega) hga hgb) (cwV 0 hts gX3_faultOf_X3_mixSecond rfl rfl rfl (by decide +kernel) ⟨Nat.le_of_ble_eq_true rfl, Nat.le_of_ble_eq_true rfl⟩) 3 0 rfl rfl rfl [0, 1, 2, 3, 4, 5, 6, 7, 8, 9, 10, 11] [] rfl rfl (by decide) (by decide) (by decide) rfl hl.1 (Nat.le_of_ble_eq_true rfl) dX3_faultOf_82 ⟨Nat.zero_le _, Nat.zero_le _⟩ (fun u H locs hw hP hD hS => ?_)
            obtain ⟨hu_11, xu_11⟩ := u
            have qu_11 : ∀ j, j < 8 → hu_11 j = p_mix gu_9 (p_b2 (va_cpy gc ge (34 * y) 0 26) 0) j := hw
            have hP : va_P G.1 vwCl (wMd G b gc gd gw gf gp ga gb hu_11 gu_9 xu_11 (va_cpy gc ge (34 * y) 0 26) n k z t kn pl lf pn) H := hP
            have hD : va_D A (wMd G b gc gd gw gf gp ga gb hu_11 gu_9 xu_11 (va_cpy gc ge (34 * y) 0 26) n k z t kn pl lf pn) := hD
            have hqh : ∀ j, j < 8 → hu_11 j = p_hash gc (y * 34) j := fun j hj => ((qu_11 j hj).trans (p_mix_congr qu_9 (fun _ _ => rfl) j hj)).trans (hash_congr (fun i h => by rw [Nat.zero_add, cpy_0 h, Nat.mul_comm]) j hj)
            refine lv_iconst (v := nI 0) hx hb dX3_faultOf_85 (by decide) ?_
            refine lv_istore_n (lv' := [(2, .int (nI 0)), (0, .ref (b 0)), (1, .int (nI y))]) hx hb dX3_faultOf_86 rfl hl (by decide) rfl (fun ls hl => ?_)
            suffices hloop2 : ∀ (fu2 : Nat) (i2 : Nat), (i2 ≤ 8) → (∀ j, j < i2 → p_is (p_hash gc (y * 34)) gc (y * 34 + 26) j = true) → 8 - i2 < fu2 → ∀ (H : Heap) (locs : List Loc) (ls : Array Slot), va_P G.1 vwCl (wMd G b gc gd gw gf gp ga gb hu_11 gu_9 xu_11 (va_cpy gc ge (34 * y) 0 26) n k z t kn pl lf pn) H → va_D A (wMd G b gc gd gw gf gp ga gb hu_11 gu_9 xu_11 (va_cpy gc ge (34 * y) 0 26) n k z t kn pl lf pn) → va_S A s.heap H locs → lv_has ls 3 [(0, .ref (b 0)), (1, .int (nI y)), (2, .int (nI i2))] → W p l e ({ frames := 3, cells := 0, slots := 0, locals := 73 } : Room) s m args below meth c H locs 0 0 Q (F0 m 87 ls []) from hloop2 _ 0 (Nat.zero_le _) (fun j h => absurd h (Nat.not_lt_zero j)) (Nat.lt_succ_self _) _ _ _ hP hD hS (lv_sub hl [1, 2, 0] rfl)
            clear hP hD hS hl
            intro fu2
            induction fu2 with
            | zero => intro i2 hi2 hm2 hfu; exact absurd hfu (Nat.not_lt_zero _)
            | succ fu2 ih2 =>
              intro i2 hi2 hm2 hfu2 H locs ls hP hD hS hl
              refine lv_iload_n hx hb dX3_faultOf_87 rfl (lv_at hl 2 rfl) ?_
              refine lv_bipush (v := nI 8) hx hb dX3_faultOf_88 (by decide) ?_
              refine cmp_ge hx hb i2 8 116 (by omega) (by omega) dX3_faultOf_90 (by decide) (fun c90 => ?_) (fun c90 => ?_)
              · have e116 : i2 = 8 := by omega
                subst e116
                refine lv_aload_n hx hb dX3_faultOf_116 rfl (lv_at hl 0 rfl) ?_
                refine call_Vi (wr := ([] : va_W)) [] [] ⟨hx, hb, hml, hown, hts⟩ hK hX hA hP hD hS (m_zeros l G _ b gc gd gw gf gp ga gb hu_11 gu_9 xu_11 (va_cpy gc ge (34 * y) 0 26) n k z t kn pl lf pn  (by omega) (by omega) (by omega) (by omega) (by omega) (by omega) (by omega) hga hgb) (cwV 0 hts gX3_faultOf_X3_zeros rfl rfl rfl (by decide +kernel) ⟨Nat.le_of_ble_eq_true rfl, Nat.le_of_ble_eq_true rfl⟩) 3 0 rfl rfl rfl [0, 1, 2, 3, 4, 5, 6, 7, 8, 9, 10, 11] [] rfl rfl (by decide) (by decide) (by decide) rfl hl.1 (Nat.le_of_ble_eq_true rfl) dX3_faultOf_117 ⟨Nat.zero_le _, Nat.zero_le _⟩ (fun r_13 u H locs hw hP hD hS => ?_)
                obtain rfl := hw
                have hP : va_P G.1 vwCl (wMd G b gc gd gw gf gp ga gb hu_11 gu_9 xu_11 (va_cpy gc ge (34 * y) 0 26) n k z t kn pl lf pn) H := hP
                have hD : va_D A (wMd G b gc gd gw gf gp ga gb hu_11 gu_9 xu_11 (va_cpy gc ge (34 * y) 0 26) n k z t kn pl lf pn) := hD
                refine lv_aload_n hx hb dX3_faultOf_120 rfl (lv_at hl 0 rfl) ?_
                refine va_get (D := G.1) (ci := 3) (v := .ref (b 1)) (C := RX3) (T := TX3) (N := 19) hx hb hts hiX3 hown hK hP 0 rfl rfl 0 (by decide) lk7 (fun _ h9 => h9) rfl dX3_faultOf_121 ?_
                refine lv_bipush (v := nI 34) hx hb dX3_faultOf_124 (by decide) ?_
                refine lv_iload_n hx hb dX3_faultOf_126 rfl (lv_at hl 1 rfl) ?_
                refine mu_N hx hb 34 y dX3_faultOf_127 ?_
                refine lv_bipush (v := nI 24) hx hb dX3_faultOf_128 (by decide) ?_
                refine ad_N hx hb (34 * y) 24 dX3_faultOf_130 ?_
                refine rd_i hx hb hK hP 1 rfl ((34 * y) + 24) (by omega) (by omega) dX3_faultOf_131 ?_
                refine lv_iconst (v := nI 4) hx hb dX3_faultOf_132 (by decide) ?_
                refine lv_iushr (v := (p_ush (gc ((34 * y) + 24)) (nI 4))) hx hb dX3_faultOf_133 rfl ?_
                refine top_i (nI (p_dif (gc ((34 * y) + 24)))) (ush4 _) ?_
                have hdl := p_dif_lt (gc ((34 * y) + 24))
                have hzl := p_zeros_le hu_11
                refine cmp_ge hx hb (p_zeros hu_11) (p_dif (gc ((34 * y) + 24))) 141 (by omega) (by omega) dX3_faultOf_134 (by decide) (fun c134 => ?_) (fun c134 => ?_)
                · refine lv_iconst (v := nI 0) hx hb dX3_faultOf_141 (by decide) ?_
                  exact ret 142 _ _ _ (nI 0) (hu_11, gu_9, xu_11, va_cpy gc ge (34 * y) 0 26) dX3_faultOf_142 (by rw [p_flt, show y * 34 + 0 = 34 * y by omega, bI_n c11, show y * 34 + 8 = 34 * y + 8 by omega, bI_n c41, if_pos rfl, if_pos rfl, if_pos (allN_iff.mpr hm2), if_neg (by rw [← p_zeros_congr hqh, show y * 34 + 24 = 34 * y + 24 by omega]; omega)]) hP hD hS
                · refine lv_iconst (v := nI 4) hx hb dX3_faultOf_137 (by decide) ?_
                  refine lv_goto (tgt := 142) hx hb dX3_faultOf_138 (by decide) ?_
                  exact ret 142 _ _ _ (nI 4) (hu_11, gu_9, xu_11, va_cpy gc ge (34 * y) 0 26) dX3_faultOf_142 (by rw [p_flt, show y * 34 + 0 = 34 * y by omega, bI_n c11, show y * 34 + 8 = 34 * y + 8 by omega, bI_n c41, if_pos rfl, if_pos rfl, if_pos (allN_iff.mpr hm2), if_pos (by rw [← p_zeros_congr hqh, show y * 34 + 24 = 34 * y + 24 by omega]; exact c134)]) hP hD hS
              · refine lv_aload_n hx hb dX3_faultOf_93 rfl (lv_at hl 0 rfl) ?_
                refine va_get (D := G.1) (ci := 3) (v := .ref (b 8)) (C := RX3) (T := TX3) (N := 19) hx hb hts hiX3 hown hK hP 0 rfl rfl 15 (by decide) lk36 (fun _ h9 => h9) rfl dX3_faultOf_94 ?_
                refine lv_iload_n hx hb dX3_faultOf_97 rfl (lv_at hl 2 rfl) ?_
                refine rd_i hx hb hK hP 8 rfl i2 (by omega) (by omega) dX3_faultOf_98 ?_
                refine lv_aload_n hx hb dX3_faultOf_99 rfl (lv_at hl 0 rfl) ?_
                refine lv_iload_n hx hb dX3_faultOf_100 rfl (lv_at hl 1 rfl) ?_
                refine lv_iload_n hx hb dX3_faultOf_101 rfl (lv_at hl 2 rfl) ?_
                refine call_Vi (wr := ([] : va_W)) [.int (nI y), .int (nI i2)] [.int (hu_11 i2)] ⟨hx, hb, hml, hown, hts⟩ hK hX hA hP hD hS (m_hashCell l G _ b gc gd gw gf gp ga gb hu_11 gu_9 xu_11 (va_cpy gc ge (34 * y) 0 26) n k z t kn pl lf pn y i2 (by omega) (by omega) (by omega) (by omega) (by omega) (by omega) (by omega) hga hgb (by omega) (by omega)) (cwV 2 hts gX3_faultOf_X3_hashCell rfl rfl rfl (by decide +kernel) ⟨Nat.le_of_ble_eq_true rfl, Nat.le_of_ble_eq_true rfl⟩) 3 0 rfl rfl rfl [0, 1, 2, 3, 4, 5, 6, 7, 8, 9, 10, 11] [] rfl rfl (by decide) (by decide) (by decide) rfl hl.1 (Nat.le_of_ble_eq_true rfl) dX3_faultOf_102 ⟨Nat.zero_le _, Nat.zero_le _⟩ (fun r_15 u H locs hw hP hD hS => ?_)
                obtain rfl := hw
                have hP : va_P G.1 vwCl (wMd G b gc gd gw gf gp ga gb hu_11 gu_9 xu_11 (va_cpy gc ge (34 * y) 0 26) n k z t kn pl lf pn) H := hP
                have hD : va_D A (wMd G b gc gd gw gf gp ga gb hu_11 gu_9 xu_11 (va_cpy gc ge (34 * y) 0 26) n k z t kn pl lf pn) := hD
                refine lv_icmp_eq (tgt := 110) hx hb dX3_faultOf_105 (by decide) (fun c105 => ?_) (fun c105 => ?_)
                · refine lv_iinc (v := nI (i2 + 1)) (lv' := [(2, .int (nI (i2 + 1))), (0, .ref (b 0)), (1, .int (nI y))]) hx hb dX3_faultOf_110 hl (k := 2) rfl (inc_N i2 1) (by decide) rfl (fun ls hl => ?_)
                  refine lv_goto (tgt := 87) hx hb dX3_faultOf_113 (by decide) ?_
                  exact ih2 (i2 + 1) (by omega) (lt_s hm2 (decide_eq_true (by rw [← hqh i2 (by omega), c105, show y * 34 + 26 + i2 = 34 * y + 26 + i2 by omega]))) (by omega) _ _ _ hP hD hS (lv_sub hl [1, 2, 0] rfl)
                · refine lv_iconst (v := nI 3) hx hb dX3_faultOf_108 (by decide) ?_
                  exact ret 109 _ _ _ (nI 3) (hu_11, gu_9, xu_11, va_cpy gc ge (34 * y) 0 26) dX3_faultOf_109 (by rw [p_flt, show y * 34 + 0 = 34 * y by omega, bI_n c11, show y * 34 + 8 = 34 * y + 8 by omega, bI_n c41, if_pos rfl, if_pos rfl, if_neg (fun z => c105 (by rw [hqh i2 (by omega), show 34 * y + 26 + i2 = y * 34 + 26 + i2 by omega]; exact (of_decide_eq_true (allN_iff.mp z i2 (by omega))).symm))]) hP hD hS
          · refine lv_aload_n hx hb dX3_faultOf_54 rfl (lv_at hl 0 rfl) ?_
            refine va_get (D := G.1) (ci := 3) (v := .ref (b 11)) (C := RX3) (T := TX3) (N := 19) hx hb hts hiX3 hown hK hP 0 rfl rfl 18 (by decide) lk45 (fun _ h9 => h9) rfl dX3_faultOf_55 ?_
            refine lv_iload_n hx hb dX3_faultOf_58 rfl (lv_at hl 2 rfl) ?_
            refine lv_aload_n hx hb dX3_faultOf_59 rfl (lv_at hl 0 rfl) ?_
            refine va_get (D := G.1) (ci := 3) (v := .ref (b 1)) (C := RX3) (T := TX3) (N := 19) hx hb hts hiX3 hown hK hP 0 rfl rfl 0 (by decide) lk7 (fun _ h9 => h9) rfl dX3_faultOf_60 ?_
            refine lv_bipush (v := nI 34) hx hb dX3_faultOf_63 (by decide) ?_
            refine lv_iload_n hx hb dX3_faultOf_65 rfl (lv_at hl 1 rfl) ?_
            refine mu_N hx hb 34 y dX3_faultOf_66 ?_
            refine lv_iload_n hx hb dX3_faultOf_67 rfl (lv_at hl 2 rfl) ?_
            refine ad_N hx hb (34 * y) i1 dX3_faultOf_68 ?_
            refine rd_i hx hb hK hP 1 rfl ((34 * y) + i1) (by omega) (by omega) dX3_faultOf_69 ?_
            refine wr_i hx hb hK hP hD hS 11 rfl i1 (by omega) (by omega) dX3_faultOf_70 (fun H locs hP hD hS => ?_)
            have hP : va_P G.1 vwCl (wMd G b gc gd gw gf gp ga gb gh gg gx (upd (va_cpy gc ge (34 * y) 0 i1) i1 (gc ((34 * y) + i1))) n k z t kn pl lf pn) H := hP
            have hD : va_D A (wMd G b gc gd gw gf gp ga gb gh gg gx (upd (va_cpy gc ge (34 * y) 0 i1) i1 (gc ((34 * y) + i1))) n k z t kn pl lf pn) := hD
            rw [show upd (va_cpy gc ge (34 * y) 0 i1) i1 (gc (34 * y + i1)) = va_cpy gc ge (34 * y) 0 (i1 + 1) from cpy_sa] at hP hD
            refine lv_iinc (v := nI (i1 + 1)) (lv' := [(2, .int (nI (i1 + 1))), (0, .ref (b 0)), (1, .int (nI y))]) hx hb dX3_faultOf_71 hl (k := 2) rfl (inc_N i1 1) (by decide) rfl (fun ls hl => ?_)
            refine lv_goto (tgt := 48) hx hb dX3_faultOf_74 (by decide) ?_
            exact ih1 (i1 + 1) (by omega) (by omega) _ _ _ hP hD hS (lv_sub hl [1, 2, 0] rfl)
      · refine lv_iconst (v := nI 2) hx hb dX3_faultOf_44 (by decide) ?_
        exact ret 45 _ _ _ (nI 2) (gh, gg, gx, ge) dX3_faultOf_45 (by rw [p_flt, show y * 34 + 0 = 34 * y by omega, bI_n c11, show y * 34 + 8 = 34 * y + 8 by omega, bI_z c41]; rfl) hP hD hS
    · refine lv_iconst (v := (-1)) hx hb dX3_faultOf_28 (by decide) ?_
      refine lv_goto (tgt := 38) hx hb dX3_faultOf_29 (by decide) ?_
      refine top_i (p_skI y) (by rw [p_skI, if_pos (by omega)]) ?_
      refine call_Vi (wr := ([] : va_W)) [.int (nI ((34 * y) + 8)), .int (p_skI y)] [] ⟨hx, hb, hml, hown, hts⟩ hK hX hA hP hD hS (m_isHashOf l G _ b gc gd gw gf gp ga gb gh gg gx ge n k z t kn pl lf pn ((34 * y) + 8) (p_skI y) (by omega) (by omega) (by omega) (by omega) (by omega) (by omega) (by omega) hga hgb (by omega) (skI_ok hy hn)) (cwV 2 hts gX3_faultOf_X3_isHashOf rfl rfl rfl (by decide +kernel) ⟨Nat.le_of_ble_eq_true rfl, Nat.le_of_ble_eq_true rfl⟩) 3 0 rfl rfl rfl [0, 1, 2, 3, 4, 5, 6, 7, 8, 9, 10, 11] [] rfl rfl (by decide) (by decide) (by decide) rfl hl.1 (Nat.le_of_ble_eq_true rfl) dX3_faultOf_38 ⟨Nat.zero_le _, Nat.zero_le _⟩ (fun r_17 u H locs hw hP hD hS => ?_)
      obtain rfl := hw
      have hP : va_P G.1 vwCl (wMd G b gc gd gw gf gp ga gb gh gg gx ge n k z t kn pl lf pn) H := hP
      have hD : va_D A (wMd G b gc gd gw gf gp ga gb gh gg gx ge n k z t kn pl lf pn) := hD
      refine lv_if_ne (tgt := 46) hx hb dX3_faultOf_41 (by decide) (fun c41 => ?_) (fun c41 => ?_)
      · refine lv_iconst (v := nI 0) hx hb dX3_faultOf_46 (by decide) ?_
        refine lv_istore_n (lv' := [(2, .int (nI 0)), (0, .ref (b 0)), (1, .int (nI y))]) hx hb dX3_faultOf_47 rfl hl (by decide) rfl (fun ls hl => ?_)
        have hP : va_P G.1 vwCl (wMd G b gc gd gw gf gp ga gb gh gg gx (va_cpy gc ge (34 * y) 0 0) n k z t kn pl lf pn) H := by rw [cpy_n0]; exact hP
        have hD : va_D A (wMd G b gc gd gw gf gp ga gb gh gg gx (va_cpy gc ge (34 * y) 0 0) n k z t kn pl lf pn) := by rw [cpy_n0]; exact hD
        suffices hloop1 : ∀ (fu1 : Nat) (i1 : Nat), (i1 ≤ 26) → 26 - i1 < fu1 → ∀ (H : Heap) (locs : List Loc) (ls : Array Slot), va_P G.1 vwCl (wMd G b gc gd gw gf gp ga gb gh gg gx (va_cpy gc ge (34 * y) 0 i1) n k z t kn pl lf pn) H → va_D A (wMd G b gc gd gw gf gp ga gb gh gg gx (va_cpy gc ge (34 * y) 0 i1) n k z t kn pl lf pn) → va_S A s.heap H locs → lv_has ls 3 [(0, .ref (b 0)), (1, .int (nI y)), (2, .int (nI i1))] → W p l e ({ frames := 3, cells := 0, slots := 0, locals := 73 } : Room) s m args below meth c H locs 0 0 Q (F0 m 48 ls []) from hloop1 _ 0 (Nat.zero_le _) (Nat.lt_succ_self _) _ _ _ hP hD hS (lv_sub hl [1, 2, 0] rfl)
        clear hP hD hS hl
        intro fu1
        induction fu1 with
        | zero => intro i1 hi1 hfu; exact absurd hfu (Nat.not_lt_zero _)
        | succ fu1 ih1 =>
          intro i1 hi1 hfu1 H locs ls hP hD hS hl
          refine lv_iload_n hx hb dX3_faultOf_48 rfl (lv_at hl 2 rfl) ?_
          refine lv_bipush (v := nI 26) hx hb dX3_faultOf_49 (by decide) ?_
          refine cmp_ge hx hb i1 26 77 (by omega) (by omega) dX3_faultOf_51 (by decide) (fun c51 => ?_) (fun c51 => ?_)
          · have e77 : i1 = 26 := by omega
            subst e77
            refine lv_aload_n hx hb dX3_faultOf_77 rfl (lv_at hl 0 rfl) ?_
            refine call_Vv (wr := ([] : va_W)) [] [] ⟨hx, hb, hml, hown, hts⟩ hK hX hA hP hD hS (m_mixFirst l G _ b gc gd gw gf gp ga gb gh gg gx (va_cpy gc ge (34 * y) 0 26) n k z t kn pl lf pn  (by omega) (by omega) (by omega) (by omega) (by omega) (by omega) (by omega) hga hgb) (cwV 0 hts gX3_faultOf_X3_mixFirst rfl rfl rfl (by decide +kernel) ⟨Nat.le_of_ble_eq_true rfl, Nat.le_of_ble_eq_true rfl⟩) 3 0 rfl rfl rfl [0, 1, 2, 3, 4, 5, 6, 7, 8, 9, 10, 11] [] rfl rfl (by decide) (by decide) (by decide) rfl hl.1 (Nat.le_of_ble_eq_true rfl) dX3_faultOf_78 ⟨Nat.zero_le _, Nat.zero_le _⟩ (fun u H locs hw hP hD hS => ?_)
            obtain ⟨hu_21, gu_21, xu_21⟩ := u
            have qu_21 : ∀ j, j < 8 → gu_21 j = p_h1 (va_cpy gc ge (34 * y) 0 26) 0 j := hw
            have hP : va_P G.1 vwCl (wMd G b gc gd gw gf gp ga gb hu_21 gu_21 xu_21 (va_cpy gc ge (34 * y) 0 26) n k z t kn pl lf pn) H := hP
            have hD : va_D A (wMd G b gc gd gw gf gp ga gb hu_21 gu_21 xu_21 (va_cpy gc ge (34 * y) 0 26) n k z t kn pl lf pn) := hD
            refine lv_aload_n hx hb dX3_faultOf_81 rfl (lv_at hl 0 rfl) ?_
            refine call_Vv (wr := ([] : va_W)) [] [] ⟨hx, hb, hml, hown, hts⟩ hK hX hA hP hD hS (m_mixSecond l G _ b gc gd gw gf gp ga gb hu_21 gu_21 xu_21 (va_cpy gc ge (34 * y) 0 26) n k z t kn pl lf pn  (by omega) (by omega) (by omega) (by omega) (by omega) (by omega) (by omega) hga hgb) (cwV 0 hts gX3_faultOf_X3_mixSecond rfl rfl rfl (by decide +kernel) ⟨Nat.le_of_ble_eq_true rfl, Nat.le_of_ble_eq_true rfl⟩) 3 0 rfl rfl rfl [0, 1, 2, 3, 4, 5, 6, 7, 8, 9, 10, 11] [] rfl rfl (by decide) (by decide) (by decide) rfl hl.1 (Nat.le_of_ble_eq_true rfl) dX3_faultOf_82 ⟨Nat.zero_le _, Nat.zero_le _⟩ (fun u H locs hw hP hD hS => ?_)
            obtain ⟨hu_23, xu_23⟩ := u
            have qu_23 : ∀ j, j < 8 → hu_23 j = p_mix gu_21 (p_b2 (va_cpy gc ge (34 * y) 0 26) 0) j := hw
            have hP : va_P G.1 vwCl (wMd G b gc gd gw gf gp ga gb hu_23 gu_21 xu_23 (va_cpy gc ge (34 * y) 0 26) n k z t kn pl lf pn) H := hP
            have hD : va_D A (wMd G b gc gd gw gf gp ga gb hu_23 gu_21 xu_23 (va_cpy gc ge (34 * y) 0 26) n k z t kn pl lf pn) := hD
            have hqh : ∀ j, j < 8 → hu_23 j = p_hash gc (y * 34) j := fun j hj => ((qu_23 j hj).trans (p_mix_congr qu_21 (fun _ _ => rfl) j hj)).trans (hash_congr (fun i h => by rw [Nat.zero_add, cpy_0 h, Nat.mul_comm]) j hj)
            refine lv_iconst (v := nI 0) hx hb dX3_faultOf_85 (by decide) ?_
            refine lv_istore_n (lv' := [(2, .int (nI 0)), (0, .ref (b 0)), (1, .int (nI y))]) hx hb dX3_faultOf_86 rfl hl (by decide) rfl (fun ls hl => ?_)
            suffices hloop2 : ∀ (fu2 : Nat) (i2 : Nat), (i2 ≤ 8) → (∀ j, j < i2 → p_is (p_hash gc (y * 34)) gc (y * 34 + 26) j = true) → 8 - i2 < fu2 → ∀ (H : Heap) (locs : List Loc) (ls : Array Slot), va_P G.1 vwCl (wMd G b gc gd gw gf gp ga gb hu_23 gu_21 xu_23 (va_cpy gc ge (34 * y) 0 26) n k z t kn pl lf pn) H → va_D A (wMd G b gc gd gw gf gp ga gb hu_23 gu_21 xu_23 (va_cpy gc ge (34 * y) 0 26) n k z t kn pl lf pn) → va_S A s.heap H locs → lv_has ls 3 [(0, .ref (b 0)), (1, .int (nI y)), (2, .int (nI i2))] → W p l e ({ frames := 3, cells := 0, slots := 0, locals := 73 } : Room) s m args below meth c H locs 0 0 Q (F0 m 87 ls []) from hloop2 _ 0 (Nat.zero_le _) (fun j h => absurd h (Nat.not_lt_zero j)) (Nat.lt_succ_self _) _ _ _ hP hD hS (lv_sub hl [1, 2, 0] rfl)
            clear hP hD hS hl
            intro fu2
            induction fu2 with
            | zero => intro i2 hi2 hm2 hfu; exact absurd hfu (Nat.not_lt_zero _)
            | succ fu2 ih2 =>
              intro i2 hi2 hm2 hfu2 H locs ls hP hD hS hl
              refine lv_iload_n hx hb dX3_faultOf_87 rfl (lv_at hl 2 rfl) ?_
              refine lv_bipush (v := nI 8) hx hb dX3_faultOf_88 (by decide) ?_
              refine cmp_ge hx hb i2 8 116 (by omega) (by omega) dX3_faultOf_90 (by decide) (fun c90 => ?_) (fun c90 => ?_)
              · have e116 : i2 = 8 := by omega
                subst e116
                refine lv_aload_n hx hb dX3_faultOf_116 rfl (lv_at hl 0 rfl) ?_
                refine call_Vi (wr := ([] : va_W)) [] [] ⟨hx, hb, hml, hown, hts⟩ hK hX hA hP hD hS (m_zeros l G _ b gc gd gw gf gp ga gb hu_23 gu_21 xu_23 (va_cpy gc ge (34 * y) 0 26) n k z t kn pl lf pn  (by omega) (by omega) (by omega) (by omega) (by omega) (by omega) (by omega) hga hgb) (cwV 0 hts gX3_faultOf_X3_zeros rfl rfl rfl (by decide +kernel) ⟨Nat.le_of_ble_eq_true rfl, Nat.le_of_ble_eq_true rfl⟩) 3 0 rfl rfl rfl [0, 1, 2, 3, 4, 5, 6, 7, 8, 9, 10, 11] [] rfl rfl (by decide) (by decide) (by decide) rfl hl.1 (Nat.le_of_ble_eq_true rfl) dX3_faultOf_117 ⟨Nat.zero_le _, Nat.zero_le _⟩ (fun r_25 u H locs hw hP hD hS => ?_)
                obtain rfl := hw
                have hP : va_P G.1 vwCl (wMd G b gc gd gw gf gp ga gb hu_23 gu_21 xu_23 (va_cpy gc ge (34 * y) 0 26) n k z t kn pl lf pn) H := hP
                have hD : va_D A (wMd G b gc gd gw gf gp ga gb hu_23 gu_21 xu_23 (va_cpy gc ge (34 * y) 0 26) n k z t kn pl lf pn) := hD
                refine lv_aload_n hx hb dX3_faultOf_120 rfl (lv_at hl 0 rfl) ?_
                refine va_get (D := G.1) (ci := 3) (v := .ref (b 1)) (C := RX3) (T := TX3) (N := 19) hx hb hts hiX3 hown hK hP 0 rfl rfl 0 (by decide) lk7 (fun _ h9 => h9) rfl dX3_faultOf_121 ?_
                refine lv_bipush (v := nI 34) hx hb dX3_faultOf_124 (by decide) ?_
                refine lv_iload_n hx hb dX3_faultOf_126 rfl (lv_at hl 1 rfl) ?_
                refine mu_N hx hb 34 y dX3_faultOf_127 ?_
                refine lv_bipush (v := nI 24) hx hb dX3_faultOf_128 (by decide) ?_
                refine ad_N hx hb (34 * y) 24 dX3_faultOf_130 ?_
                refine rd_i hx hb hK hP 1 rfl ((34 * y) + 24) (by omega) (by omega) dX3_faultOf_131 ?_
                refine lv_iconst (v := nI 4) hx hb dX3_faultOf_132 (by decide) ?_
                refine lv_iushr (v := (p_ush (gc ((34 * y) + 24)) (nI 4))) hx hb dX3_faultOf_133 rfl ?_
                refine top_i (nI (p_dif (gc ((34 * y) + 24)))) (ush4 _) ?_
                have hdl := p_dif_lt (gc ((34 * y) + 24))
                have hzl := p_zeros_le hu_23
                refine cmp_ge hx hb (p_zeros hu_23) (p_dif (gc ((34 * y) + 24))) 141 (by omega) (by omega) dX3_faultOf_134 (by decide) (fun c134 => ?_) (fun c134 => ?_)
                · refine lv_iconst (v := nI 0) hx hb dX3_faultOf_141 (by decide) ?_
                  exact ret 142 _ _ _ (nI 0) (hu_23, gu_21, xu_23, va_cpy gc ge (34 * y) 0 26) dX3_faultOf_142 (by rw [p_flt, show y * 34 + 0 = 34 * y by omega, bI_n c11, show y * 34 + 8 = 34 * y + 8 by omega, bI_n c41, if_pos rfl, if_pos rfl, if_pos (allN_iff.mpr hm2), if_neg (by rw [← p_zeros_congr hqh, show y * 34 + 24 = 34 * y + 24 by omega]; omega)]) hP hD hS
                · refine lv_iconst (v := nI 4) hx hb dX3_faultOf_137 (by decide) ?_
                  refine lv_goto (tgt := 142) hx hb dX3_faultOf_138 (by decide) ?_
                  exact ret 142 _ _ _ (nI 4) (hu_23, gu_21, xu_23, va_cpy gc ge (34 * y) 0 26) dX3_faultOf_142 (by rw [p_flt, show y * 34 + 0 = 34 * y by omega, bI_n c11, show y * 34 + 8 = 34 * y + 8 by omega, bI_n c41, if_pos rfl, if_pos rfl, if_pos (allN_iff.mpr hm2), if_pos (by rw [← p_zeros_congr hqh, show y * 34 + 24 = 34 * y + 24 by omega]; exact c134)]) hP hD hS
              · refine lv_aload_n hx hb dX3_faultOf_93 rfl (lv_at hl 0 rfl) ?_
                refine va_get (D := G.1) (ci := 3) (v := .ref (b 8)) (C := RX3) (T := TX3) (N := 19) hx hb hts hiX3 hown hK hP 0 rfl rfl 15 (by decide) lk36 (fun _ h9 => h9) rfl dX3_faultOf_94 ?_
                refine lv_iload_n hx hb dX3_faultOf_97 rfl (lv_at hl 2 rfl) ?_
                refine rd_i hx hb hK hP 8 rfl i2 (by omega) (by omega) dX3_faultOf_98 ?_
                refine lv_aload_n hx hb dX3_faultOf_99 rfl (lv_at hl 0 rfl) ?_
                refine lv_iload_n hx hb dX3_faultOf_100 rfl (lv_at hl 1 rfl) ?_
                refine lv_iload_n hx hb dX3_faultOf_101 rfl (lv_at hl 2 rfl) ?_
                refine call_Vi (wr := ([] : va_W)) [.int (nI y), .int (nI i2)] [.int (hu_23 i2)] ⟨hx, hb, hml, hown, hts⟩ hK hX hA hP hD hS (m_hashCell l G _ b gc gd gw gf gp ga gb hu_23 gu_21 xu_23 (va_cpy gc ge (34 * y) 0 26) n k z t kn pl lf pn y i2 (by omega) (by omega) (by omega) (by omega) (by omega) (by omega) (by omega) hga hgb (by omega) (by omega)) (cwV 2 hts gX3_faultOf_X3_hashCell rfl rfl rfl (by decide +kernel) ⟨Nat.le_of_ble_eq_true rfl, Nat.le_of_ble_eq_true rfl⟩) 3 0 rfl rfl rfl [0, 1, 2, 3, 4, 5, 6, 7, 8, 9, 10, 11] [] rfl rfl (by decide) (by decide) (by decide) rfl hl.1 (Nat.le_of_ble_eq_true rfl) dX3_faultOf_102 ⟨Nat.zero_le _, Nat.zero_le _⟩ (fun r_27 u H locs hw hP hD hS => ?_)
                obtain rfl := hw
                have hP : va_P G.1 vwCl (wMd G b gc gd gw gf gp ga gb hu_23 gu_21 xu_23 (va_cpy gc ge (34 * y) 0 26) n k z t kn pl lf pn) H := hP
                have hD : va_D A (wMd G b gc gd gw gf gp ga gb hu_23 gu_21 xu_23 (va_cpy gc ge (34 * y) 0 26) n k z t kn pl lf pn) := hD
                refine lv_icmp_eq (tgt := 110) hx hb dX3_faultOf_105 (by decide) (fun c105 => ?_) (fun c105 => ?_)
                · refine lv_iinc (v := nI (i2 + 1)) (lv' := [(2, .int (nI (i2 + 1))), (0, .ref (b 0)), (1, .int (nI y))]) hx hb dX3_faultOf_110 hl (k := 2) rfl (inc_N i2 1) (by decide) rfl (fun ls hl => ?_)
                  refine lv_goto (tgt := 87) hx hb dX3_faultOf_113 (by decide) ?_
                  exact ih2 (i2 + 1) (by omega) (lt_s hm2 (decide_eq_true (by rw [← hqh i2 (by omega), c105, show y * 34 + 26 + i2 = 34 * y + 26 + i2 by omega]))) (by omega) _ _ _ hP hD hS (lv_sub hl [1, 2, 0] rfl)
                · refine lv_iconst (v := nI 3) hx hb dX3_faultOf_108 (by decide) ?_
                  exact ret 109 _ _ _ (nI 3) (hu_23, gu_21, xu_23, va_cpy gc ge (34 * y) 0 26) dX3_faultOf_109 (by rw [p_flt, show y * 34 + 0 = 34 * y by omega, bI_n c11, show y * 34 + 8 = 34 * y + 8 by omega, bI_n c41, if_pos rfl, if_pos rfl, if_neg (fun z => c105 (by rw [hqh i2 (by omega), show 34 * y + 26 + i2 = y * 34 + 26 + i2 by omega]; exact (of_decide_eq_true (allN_iff.mp z i2 (by omega))).symm))]) hP hD hS
          · refine lv_aload_n hx hb dX3_faultOf_54 rfl (lv_at hl 0 rfl) ?_
            refine va_get (D := G.1) (ci := 3) (v := .ref (b 11)) (C := RX3) (T := TX3) (N := 19) hx hb hts hiX3 hown hK hP 0 rfl rfl 18 (by decide) lk45 (fun _ h9 => h9) rfl dX3_faultOf_55 ?_
            refine lv_iload_n hx hb dX3_faultOf_58 rfl (lv_at hl 2 rfl) ?_
            refine lv_aload_n hx hb dX3_faultOf_59 rfl (lv_at hl 0 rfl) ?_
            refine va_get (D := G.1) (ci := 3) (v := .ref (b 1)) (C := RX3) (T := TX3) (N := 19) hx hb hts hiX3 hown hK hP 0 rfl rfl 0 (by decide) lk7 (fun _ h9 => h9) rfl dX3_faultOf_60 ?_
            refine lv_bipush (v := nI 34) hx hb dX3_faultOf_63 (by decide) ?_
            refine lv_iload_n hx hb dX3_faultOf_65 rfl (lv_at hl 1 rfl) ?_
            refine mu_N hx hb 34 y dX3_faultOf_66 ?_
            refine lv_iload_n hx hb dX3_faultOf_67 rfl (lv_at hl 2 rfl) ?_
            refine ad_N hx hb (34 * y) i1 dX3_faultOf_68 ?_
            refine rd_i hx hb hK hP 1 rfl ((34 * y) + i1) (by omega) (by omega) dX3_faultOf_69 ?_
            refine wr_i hx hb hK hP hD hS 11 rfl i1 (by omega) (by omega) dX3_faultOf_70 (fun H locs hP hD hS => ?_)
            have hP : va_P G.1 vwCl (wMd G b gc gd gw gf gp ga gb gh gg gx (upd (va_cpy gc ge (34 * y) 0 i1) i1 (gc ((34 * y) + i1))) n k z t kn pl lf pn) H := hP
            have hD : va_D A (wMd G b gc gd gw gf gp ga gb gh gg gx (upd (va_cpy gc ge (34 * y) 0 i1) i1 (gc ((34 * y) + i1))) n k z t kn pl lf pn) := hD
            rw [show upd (va_cpy gc ge (34 * y) 0 i1) i1 (gc (34 * y + i1)) = va_cpy gc ge (34 * y) 0 (i1 + 1) from cpy_sa] at hP hD
            refine lv_iinc (v := nI (i1 + 1)) (lv' := [(2, .int (nI (i1 + 1))), (0, .ref (b 0)), (1, .int (nI y))]) hx hb dX3_faultOf_71 hl (k := 2) rfl (inc_N i1 1) (by decide) rfl (fun ls hl => ?_)
            refine lv_goto (tgt := 48) hx hb dX3_faultOf_74 (by decide) ?_
            exact ih1 (i1 + 1) (by omega) (by omega) _ _ _ hP hD hS (lv_sub hl [1, 2, 0] rfl)
      · refine lv_iconst (v := nI 2) hx hb dX3_faultOf_44 (by decide) ?_
        exact ret 45 _ _ _ (nI 2) (gh, gg, gx, ge) dX3_faultOf_45 (by rw [p_flt, show y * 34 + 0 = 34 * y by omega, bI_n c11, show y * 34 + 8 = 34 * y + 8 by omega, bI_z c41]; rfl) hP hD hS
  · refine lv_iconst (v := nI 1) hx hb dX3_faultOf_14 (by decide) ?_
    exact ret 15 _ _ _ (nI 1) (gh, gg, gx, ge) dX3_faultOf_15 (by rw [p_flt, show y * 34 + 0 = 34 * y by omega, bI_z c11]; rfl) hP hD hS
set_option maxHeartbeats 4000000 in
set_option maxRecDepth 100000 in
theorem m_audit (l : Launch) (G : gG) (sz : Nat) (b : Nat → Nat) (gc gd gw gf gp ga gb gh gg gx ge : Nat → Int32) (n k z t : Nat) (kn : Int32) (pl lf pn : Nat) (x : Int32) (hn : n ≤ 60) (hk : k ≤ 8) (hz : z ≤ 20) (ht : t ≤ 100000) (hpl : pl ≤ 60) (hlf : lf ≤ 6) (hpn : pn ≤ 1560) (hga : ∀ j, j < 64 → ga j = st_K j) (hgb : ∀ j, j < 8 → gb j = st_S j)  : MetI l yX3_audit wsX3_audit ({ frames := 4, cells := 0, slots := 0, locals := 95 } : Room) [.ref (b 0), .int x] G (wMd G b gc gd gw gf gp ga gb gh gg gx ge n k z t kn pl lf pn) sz (fun u : (Nat → Int32) × (Nat → Int32) × (Nat → Int32) × (Nat → Int32) × Nat × Nat => wMd G b gc gd gw gf gp ga gb u.1 u.2.1 u.2.2.1 u.2.2.2.1 n k z t kn u.2.2.2.2.1 u.2.2.2.2.2 pn) (fun r u => (fun r _ _ _ _ pl2 lf2 => q_audit gc gd n pl lf x r pl2 lf2) r u.1 u.2.1 u.2.2.1 u.2.2.2.1 u.2.2.2.2.1 u.2.2.2.2.2) := by
  refine ent_i _ cX3_audit 3 RX3 (by decide) rfl rfl (Nat.le_of_ble_eq_true rfl) ?_
  intro p e s m args below meth c A Q ls hx hb hml hts hown hA hK hX ret hl hP hD hS
  have hl : lv_has ls 3 [(0, .ref (b 0)), (1, .int x)] := hl
  have lk141 := hts (.fieldLink RX3 141 "MinedLedgerModel" "count" "I") (by decide +kernel)
  have lk181 := hts (.fieldLink RX3 181 "MinedLedgerModel" "place" "I") (by decide +kernel)
  have lk203 := hts (.fieldLink RX3 203 "MinedLedgerModel" "fault" "I") (by decide +kernel)
  have hiX3 : ∀ w ∈ wsX30, w ∈ wsX3_audit := by decide +kernel
  refine lv_iload_n hx hb dX3_audit_0 rfl (lv_at hl 1 rfl) ?_
  refine lv_iconst (v := nI 1) hx hb dX3_audit_1 (by decide) ?_
  refine cmz_ltzn hx hb x 1 11 (by omega) dX3_audit_2 (by decide) (fun c2 => ?_) (fun c2 => ?_)
  · refine lv_bipush (v := (-2)) hx hb dX3_audit_11 (by decide) ?_
    exact ret 13 _ _ _ (-2) (gh, gg, gx, ge, pl, lf) dX3_audit_13 (Or.inl ⟨Or.inl c2, rfl, rfl, rfl⟩) hP hD hS
  · refine lv_iload_n hx hb dX3_audit_5 rfl (lv_at hl 1 rfl) ?_
    refine lv_bipush (v := nI 100) hx hb dX3_audit_6 (by decide) ?_
    refine cmz_lezn hx hb x 100 14 (by omega) dX3_audit_8 (by decide) (fun c8 => ?_) (fun c8 => ?_)
    · obtain ⟨q, hq, rfl⟩ := of_nn (x := x) (by omega)
      rw [tI_N hq] at c2 c8
      refine lv_aload_n hx hb dX3_audit_14 rfl (lv_at hl 0 rfl) ?_
      refine lv_iconst (v := nI 0) hx hb dX3_audit_15 (by decide) ?_
      refine va_put (D := G.1) (ci := 3) (v := .int (nI 0)) (ty := .int) (C := RX3) (T := TX3) (N := 19) hx hb hts hiX3 tyX3 tyX3_ok nmX3 hown hK hP hD hS 0 rfl rfl 10 (by decide) lk203 (fun _ h9 => h9) rfl (by decide +kernel) rfl rfl (Nat.le_of_ble_eq_true rfl) dX3_audit_16 (fun H locs hP hD hS => ?_)
      have hP : va_P G.1 vwCl (wMd G b gc gd gw gf gp ga gb gh gg gx ge n k z t kn pl 0 pn) H := hP
      have hD : va_D A (wMd G b gc gd gw gf gp ga gb gh gg gx ge n k z t kn pl 0 pn) := hD
      refine lv_iconst (v := nI 0) hx hb dX3_audit_19 (by decide) ?_
      refine lv_istore_n (lv' := [(2, .int (nI 0)), (0, .ref (b 0)), (1, .int (nI q))]) hx hb dX3_audit_20 rfl hl (by decide) rfl (fun ls hl => ?_)
      suffices hloop1 : ∀ (fu1 : Nat) (i : Nat) (hh : Nat → Int32) (hg : Nat → Int32) (xx : Nat → Int32) (ee : Nat → Int32), (i ≤ q) → (pl + i ≤ 60) → (p_aud gc gd n (q - i) (pl + i) = p_aud gc gd n q pl) → q - i < fu1 → ∀ (H : Heap) (locs : List Loc) (ls : Array Slot), va_P G.1 vwCl (wMd G b gc gd gw gf gp ga gb hh hg xx ee n k z t kn (pl + i) 0 pn) H → va_D A (wMd G b gc gd gw gf gp ga gb hh hg xx ee n k z t kn (pl + i) 0 pn) → va_S A s.heap H locs → lv_has ls 3 [(0, .ref (b 0)), (1, .int (nI q)), (2, .int (nI i))] → W p l e ({ frames := 4, cells := 0, slots := 0, locals := 95 } : Room) s m args below meth c H locs 0 0 Q (F0 m 21 ls []) from hloop1 _ 0 gh gg gx ge (Nat.zero_le _) hpl rfl (Nat.lt_succ_self _) _ _ _ hP hD hS (lv_sub hl [1, 2, 0] rfl)
      clear hP hD hS hl
      intro fu1
      induction fu1 with
      | zero => intro i hh hg xx ee hi hpi hau hfu; exact absurd hfu (Nat.not_lt_zero _)
      | succ fu1 ih1 =>
        intro i hh hg xx ee hi hpi hau hfu1 H locs ls hP hD hS hl
        refine lv_iload_n hx hb dX3_audit_21 rfl (lv_at hl 2 rfl) ?_
        refine lv_iload_n hx hb dX3_audit_22 rfl (lv_at hl 1 rfl) ?_
        refine cmp_ge hx hb i q 77 (by omega) (by omega) dX3_audit_23 (by decide) (fun c23 => ?_) (fun c23 => ?_)
        · refine lv_iload_n hx hb dX3_audit_77 rfl (lv_at hl 2 rfl) ?_
          refine lv_iload_n hx hb dX3_audit_78 rfl (lv_at hl 1 rfl) ?_
          refine cmp_ne hx hb i q 84 (by omega) (by omega) dX3_audit_79 (by decide) (fun c79 => ?_) (fun c79 => ?_)
          · have hge : n ≤ pl + i := by omega
            refine lv_aload_n hx hb dX3_audit_84 rfl (lv_at hl 0 rfl) ?_
            refine call_Vi (wr := ([] : va_W)) [] [] ⟨hx, hb, hml, hown, hts⟩ hK hX hA hP hD hS (m_isHeadRight l G _ b gc gd gw gf gp ga gb hh hg xx ee n k z t kn (pl + i) 0 pn  (by omega) (by omega) (by omega) (by omega) (by omega) (by omega) (by omega) hga hgb) (cwV 0 hts gX3_audit_X3_isHeadRight rfl rfl rfl (by decide +kernel) ⟨Nat.le_of_ble_eq_true rfl, Nat.le_of_ble_eq_true rfl⟩) 3 0 rfl rfl rfl [0, 1, 2, 3, 4, 5, 6, 7, 8, 9, 10, 11] [] rfl rfl (by decide) (by decide) (by decide) rfl hl.1 (Nat.le_of_ble_eq_true rfl) dX3_audit_85 ⟨Nat.zero_le _, Nat.zero_le _⟩ (fun r_5 u H locs hw hP hD hS => ?_)
            obtain rfl := hw
            have hP : va_P G.1 vwCl (wMd G b gc gd gw gf gp ga gb hh hg xx ee n k z t kn (pl + i) 0 pn) H := hP
            have hD : va_D A (wMd G b gc gd gw gf gp ga gb hh hg xx ee n k z t kn (pl + i) 0 pn) := hD
            refine lv_if_eq (tgt := 94) hx hb dX3_audit_88 (by decide) (fun c88 => ?_) (fun c88 => ?_)
            · refine lv_aload_n hx hb dX3_audit_94 rfl (lv_at hl 0 rfl) ?_
              refine lv_aload_n hx hb dX3_audit_95 rfl (lv_at hl 0 rfl) ?_
              refine va_get (D := G.1) (ci := 3) (v := .int (nI n)) (C := RX3) (T := TX3) (N := 19) hx hb hts hiX3 hown hK hP 0 rfl rfl 1 (by decide) lk141 (fun _ h9 => h9) rfl dX3_audit_96 ?_
              refine if0_ne hx hb n 107 (by omega) dX3_audit_99 (by decide) (fun c99 => ?_) (fun c99 => ?_)
              · refine lv_iconst (v := nI 5) hx hb dX3_audit_107 (by decide) ?_
                refine va_put (D := G.1) (ci := 3) (v := .int (nI 5)) (ty := .int) (C := RX3) (T := TX3) (N := 19) hx hb hts hiX3 tyX3 tyX3_ok nmX3 hown hK hP hD hS 0 rfl rfl 10 (by decide) lk203 (fun _ h9 => h9) rfl (by decide +kernel) rfl rfl (Nat.le_of_ble_eq_true rfl) dX3_audit_108 (fun H locs hP hD hS => ?_)
                have hP : va_P G.1 vwCl (wMd G b gc gd gw gf gp ga gb hh hg xx ee n k z t kn (pl + i) 5 pn) H := hP
                have hD : va_D A (wMd G b gc gd gw gf gp ga gb hh hg xx ee n k z t kn (pl + i) 5 pn) := hD
                refine lv_aload_n hx hb dX3_audit_111 rfl (lv_at hl 0 rfl) ?_
                refine va_get (D := G.1) (ci := 3) (v := .int (nI n)) (C := RX3) (T := TX3) (N := 19) hx hb hts hiX3 hown hK hP 0 rfl rfl 1 (by decide) lk141 (fun _ h9 => h9) rfl dX3_audit_112 ?_
                refine if0_ne hx hb n 122 (by omega) dX3_audit_115 (by decide) (fun c115 => ?_) (fun c115 => ?_)
                · refine lv_aload_n hx hb dX3_audit_122 rfl (lv_at hl 0 rfl) ?_
                  refine va_get (D := G.1) (ci := 3) (v := .int (nI n)) (C := RX3) (T := TX3) (N := 19) hx hb hts hiX3 hown hK hP 0 rfl rfl 1 (by decide) lk141 (fun _ h9 => h9) rfl dX3_audit_123 ?_
                  refine lv_iconst (v := nI 1) hx hb dX3_audit_126 (by decide) ?_
                  refine su_N hx hb n 1 (by omega) dX3_audit_127 ?_
                  exact ret 128 _ _ _ (nI (n - 1)) (hh, hg, xx, ee, pl + i, 5) dX3_audit_128 (Or.inr ⟨q, by omega, by omega, rfl, by rw [← hau, show q - i = (q - (i + 1)) + 1 by omega, p_aud, if_pos hge, bI_z c88, if_neg (show ¬ n = 0 by omega)]; rfl⟩) hP hD hS
                · exfalso; omega
              · refine lv_bipush (v := nI 6) hx hb dX3_audit_102 (by decide) ?_
                refine lv_goto (tgt := 108) hx hb dX3_audit_104 (by decide) ?_
                refine va_put (D := G.1) (ci := 3) (v := .int (nI 6)) (ty := .int) (C := RX3) (T := TX3) (N := 19) hx hb hts hiX3 tyX3 tyX3_ok nmX3 hown hK hP hD hS 0 rfl rfl 10 (by decide) lk203 (fun _ h9 => h9) rfl (by decide +kernel) rfl rfl (Nat.le_of_ble_eq_true rfl) dX3_audit_108 (fun H locs hP hD hS => ?_)
                have hP : va_P G.1 vwCl (wMd G b gc gd gw gf gp ga gb hh hg xx ee n k z t kn (pl + i) 6 pn) H := hP
                have hD : va_D A (wMd G b gc gd gw gf gp ga gb hh hg xx ee n k z t kn (pl + i) 6 pn) := hD
                refine lv_aload_n hx hb dX3_audit_111 rfl (lv_at hl 0 rfl) ?_
                refine va_get (D := G.1) (ci := 3) (v := .int (nI n)) (C := RX3) (T := TX3) (N := 19) hx hb hts hiX3 hown hK hP 0 rfl rfl 1 (by decide) lk141 (fun _ h9 => h9) rfl dX3_audit_112 ?_
                refine if0_ne hx hb n 122 (by omega) dX3_audit_115 (by decide) (fun c115 => ?_) (fun c115 => ?_)
                · exfalso; omega
                · refine lv_iconst (v := nI 0) hx hb dX3_audit_118 (by decide) ?_
                  refine lv_goto (tgt := 128) hx hb dX3_audit_119 (by decide) ?_
                  exact ret 128 _ _ _ (nI 0) (hh, hg, xx, ee, pl + i, 6) dX3_audit_128 (Or.inr ⟨q, by omega, by omega, rfl, by rw [← hau, show q - i = (q - (i + 1)) + 1 by omega, p_aud, if_pos hge, bI_z c88, if_pos (show n = 0 by omega), show n - 1 = 0 by omega]; rfl⟩) hP hD hS
            · refine lv_bipush (v := (-5)) hx hb dX3_audit_91 (by decide) ?_
              exact ret 93 _ _ _ (-5) (hh, hg, xx, ee, pl + i, 0) dX3_audit_93 (Or.inr ⟨q, by omega, by omega, rfl, by rw [← hau, show q - i = (q - (i + 1)) + 1 by omega, p_aud, if_pos hge, bI_n c88]; rfl⟩) hP hD hS
          · refine lv_iconst (v := (-1)) hx hb dX3_audit_82 (by decide) ?_
            exact ret 83 _ _ _ (-1) (hh, hg, xx, ee, pl + i, 0) dX3_audit_83 (Or.inr ⟨q, by omega, by omega, rfl, by rw [← hau, show q - i = 0 by omega]; rfl⟩) hP hD hS
        · refine lv_aload_n hx hb dX3_audit_26 rfl (lv_at hl 0 rfl) ?_
          refine va_get (D := G.1) (ci := 3) (v := .int (nI (pl + i))) (C := RX3) (T := TX3) (N := 19) hx hb hts hiX3 hown hK hP 0 rfl rfl 9 (by decide) lk181 (fun _ h9 => h9) rfl dX3_audit_27 ?_
          refine lv_aload_n hx hb dX3_audit_30 rfl (lv_at hl 0 rfl) ?_
          refine va_get (D := G.1) (ci := 3) (v := .int (nI n)) (C := RX3) (T := TX3) (N := 19) hx hb hts hiX3 hown hK hP 0 rfl rfl 1 (by decide) lk141 (fun _ h9 => h9) rfl dX3_audit_31 ?_
          refine cmp_ge hx hb (pl + i) n 77 (by omega) (by omega) dX3_audit_34 (by decide) (fun c34 => ?_) (fun c34 => ?_)
          · refine lv_iload_n hx hb dX3_audit_77 rfl (lv_at hl 2 rfl) ?_
            refine lv_iload_n hx hb dX3_audit_78 rfl (lv_at hl 1 rfl) ?_
            refine cmp_ne hx hb i q 84 (by omega) (by omega) dX3_audit_79 (by decide) (fun c79 => ?_) (fun c79 => ?_)
            · have hge : n ≤ pl + i := by omega
              refine lv_aload_n hx hb dX3_audit_84 rfl (lv_at hl 0 rfl) ?_
              refine call_Vi (wr := ([] : va_W)) [] [] ⟨hx, hb, hml, hown, hts⟩ hK hX hA hP hD hS (m_isHeadRight l G _ b gc gd gw gf gp ga gb hh hg xx ee n k z t kn (pl + i) 0 pn  (by omega) (by omega) (by omega) (by omega) (by omega) (by omega) (by omega) hga hgb) (cwV 0 hts gX3_audit_X3_isHeadRight rfl rfl rfl (by decide +kernel) ⟨Nat.le_of_ble_eq_true rfl, Nat.le_of_ble_eq_true rfl⟩) 3 0 rfl rfl rfl [0, 1, 2, 3, 4, 5, 6, 7, 8, 9, 10, 11] [] rfl rfl (by decide) (by decide) (by decide) rfl hl.1 (Nat.le_of_ble_eq_true rfl) dX3_audit_85 ⟨Nat.zero_le _, Nat.zero_le _⟩ (fun r_12 u H locs hw hP hD hS => ?_)
              obtain rfl := hw
              have hP : va_P G.1 vwCl (wMd G b gc gd gw gf gp ga gb hh hg xx ee n k z t kn (pl + i) 0 pn) H := hP
              have hD : va_D A (wMd G b gc gd gw gf gp ga gb hh hg xx ee n k z t kn (pl + i) 0 pn) := hD
              refine lv_if_eq (tgt := 94) hx hb dX3_audit_88 (by decide) (fun c88 => ?_) (fun c88 => ?_)
              · refine lv_aload_n hx hb dX3_audit_94 rfl (lv_at hl 0 rfl) ?_
                refine lv_aload_n hx hb dX3_audit_95 rfl (lv_at hl 0 rfl) ?_
                refine va_get (D := G.1) (ci := 3) (v := .int (nI n)) (C := RX3) (T := TX3) (N := 19) hx hb hts hiX3 hown hK hP 0 rfl rfl 1 (by decide) lk141 (fun _ h9 => h9) rfl dX3_audit_96 ?_
                refine if0_ne hx hb n 107 (by omega) dX3_audit_99 (by decide) (fun c99 => ?_) (fun c99 => ?_)
                · refine lv_iconst (v := nI 5) hx hb dX3_audit_107 (by decide) ?_
                  refine va_put (D := G.1) (ci := 3) (v := .int (nI 5)) (ty := .int) (C := RX3) (T := TX3) (N := 19) hx hb hts hiX3 tyX3 tyX3_ok nmX3 hown hK hP hD hS 0 rfl rfl 10 (by decide) lk203 (fun _ h9 => h9) rfl (by decide +kernel) rfl rfl (Nat.le_of_ble_eq_true rfl) dX3_audit_108 (fun H locs hP hD hS => ?_)
                  have hP : va_P G.1 vwCl (wMd G b gc gd gw gf gp ga gb hh hg xx ee n k z t kn (pl + i) 5 pn) H := hP
                  have hD : va_D A (wMd G b gc gd gw gf gp ga gb hh hg xx ee n k z t kn (pl + i) 5 pn) := hD
                  refine lv_aload_n hx hb dX3_audit_111 rfl (lv_at hl 0 rfl) ?_
                  refine va_get (D := G.1) (ci := 3) (v := .int (nI n)) (C := RX3) (T := TX3) (N := 19) hx hb hts hiX3 hown hK hP 0 rfl rfl 1 (by decide) lk141 (fun _ h9 => h9) rfl dX3_audit_112 ?_
                  refine if0_ne hx hb n 122 (by omega) dX3_audit_115 (by decide) (fun c115 => ?_) (fun c115 => ?_)
                  · refine lv_aload_n hx hb dX3_audit_122 rfl (lv_at hl 0 rfl) ?_
                    refine va_get (D := G.1) (ci := 3) (v := .int (nI n)) (C := RX3) (T := TX3) (N := 19) hx hb hts hiX3 hown hK hP 0 rfl rfl 1 (by decide) lk141 (fun _ h9 => h9) rfl dX3_audit_123 ?_
                    refine lv_iconst (v := nI 1) hx hb dX3_audit_126 (by decide) ?_
                    refine su_N hx hb n 1 (by omega) dX3_audit_127 ?_
                    exact ret 128 _ _ _ (nI (n - 1)) (hh, hg, xx, ee, pl + i, 5) dX3_audit_128 (Or.inr ⟨q, by omega, by omega, rfl, by rw [← hau, show q - i = (q - (i + 1)) + 1 by omega, p_aud, if_pos hge, bI_z c88, if_neg (show ¬ n = 0 by omega)]; rfl⟩) hP hD hS
                  · exfalso; omega
                · refine lv_bipush (v := nI 6) hx hb dX3_audit_102 (by decide) ?_
                  refine lv_goto (tgt := 108) hx hb dX3_audit_104 (by decide) ?_
                  refine va_put (D := G.1) (ci := 3) (v := .int (nI 6)) (ty := .int) (C := RX3) (T := TX3) (N := 19) hx hb hts hiX3 tyX3 tyX3_ok nmX3 hown hK hP hD hS 0 rfl rfl 10 (by decide) lk203 (fun _ h9 => h9) rfl (by decide +kernel) rfl rfl (Nat.le_of_ble_eq_true rfl) dX3_audit_108 (fun H locs hP hD hS => ?_)
                  have hP : va_P G.1 vwCl (wMd G b gc gd gw gf gp ga gb hh hg xx ee n k z t kn (pl + i) 6 pn) H := hP
                  have hD : va_D A (wMd G b gc gd gw gf gp ga gb hh hg xx ee n k z t kn (pl + i) 6 pn) := hD
                  refine lv_aload_n hx hb dX3_audit_111 rfl (lv_at hl 0 rfl) ?_
                  refine va_get (D := G.1) (ci := 3) (v := .int (nI n)) (C := RX3) (T := TX3) (N := 19) hx hb hts hiX3 hown hK hP 0 rfl rfl 1 (by decide) lk141 (fun _ h9 => h9) rfl dX3_audit_112 ?_
                  refine if0_ne hx hb n 122 (by omega) dX3_audit_115 (by decide) (fun c115 => ?_) (fun c115 => ?_)
                  · exfalso; omega
                  · refine lv_iconst (v := nI 0) hx hb dX3_audit_118 (by decide) ?_
                    refine lv_goto (tgt := 128) hx hb dX3_audit_119 (by decide) ?_
                    exact ret 128 _ _ _ (nI 0) (hh, hg, xx, ee, pl + i, 6) dX3_audit_128 (Or.inr ⟨q, by omega, by omega, rfl, by rw [← hau, show q - i = (q - (i + 1)) + 1 by omega, p_aud, if_pos hge, bI_z c88, if_pos (show n = 0 by omega), show n - 1 = 0 by omega]; rfl⟩) hP hD hS
              · refine lv_bipush (v := (-5)) hx hb dX3_audit_91 (by decide) ?_
                exact ret 93 _ _ _ (-5) (hh, hg, xx, ee, pl + i, 0) dX3_audit_93 (Or.inr ⟨q, by omega, by omega, rfl, by rw [← hau, show q - i = (q - (i + 1)) + 1 by omega, p_aud, if_pos hge, bI_n c88]; rfl⟩) hP hD hS
            · refine lv_iconst (v := (-1)) hx hb dX3_audit_82 (by decide) ?_
              exact ret 83 _ _ _ (-1) (hh, hg, xx, ee, pl + i, 0) dX3_audit_83 (Or.inr ⟨q, by omega, by omega, rfl, by rw [← hau, show q - i = 0 by omega]; rfl⟩) hP hD hS
          · refine lv_aload_n hx hb dX3_audit_37 rfl (lv_at hl 0 rfl) ?_
            refine lv_aload_n hx hb dX3_audit_38 rfl (lv_at hl 0 rfl) ?_
            refine lv_aload_n hx hb dX3_audit_39 rfl (lv_at hl 0 rfl) ?_
            refine va_get (D := G.1) (ci := 3) (v := .int (nI (pl + i))) (C := RX3) (T := TX3) (N := 19) hx hb hts hiX3 hown hK hP 0 rfl rfl 9 (by decide) lk181 (fun _ h9 => h9) rfl dX3_audit_40 ?_
            refine call_Vi (wr := ([] : va_W)) [.int (nI (pl + i))] [.ref (b 0)] ⟨hx, hb, hml, hown, hts⟩ hK hX hA hP hD hS (m_faultOf l G _ b gc gd gw gf gp ga gb hh hg xx ee n k z t kn (pl + i) 0 pn (pl + i) (by omega) (by omega) (by omega) (by omega) (by omega) (by omega) (by omega) hga hgb (by omega)) (cwV 1 hts gX3_audit_X3_faultOf rfl rfl rfl (by decide +kernel) ⟨Nat.le_of_ble_eq_true rfl, Nat.le_of_ble_eq_true rfl⟩) 3 0 rfl rfl rfl [0, 1, 2, 3, 4, 5, 6, 7, 8, 9, 10, 11] [] rfl rfl (by decide) (by decide) (by decide) rfl hl.1 (Nat.le_of_ble_eq_true rfl) dX3_audit_43 ⟨Nat.zero_le _, Nat.zero_le _⟩ (fun r_17 u H locs hw hP hD hS => ?_)
            obtain ⟨hu_18, gu_18, xu_18, eu_18⟩ := u
            obtain rfl := hw
            have hP : va_P G.1 vwCl (wMd G b gc gd gw gf gp ga gb hu_18 gu_18 xu_18 eu_18 n k z t kn (pl + i) 0 pn) H := hP
            have hD : va_D A (wMd G b gc gd gw gf gp ga gb hu_18 gu_18 xu_18 eu_18 n k z t kn (pl + i) 0 pn) := hD
            have hflu_18 := p_flt_le gc n (pl + i)
            refine va_put (D := G.1) (ci := 3) (v := .int (nI (p_flt gc n (pl + i)))) (ty := .int) (C := RX3) (T := TX3) (N := 19) hx hb hts hiX3 tyX3 tyX3_ok nmX3 hown hK hP hD hS 0 rfl rfl 10 (by decide) lk203 (fun _ h9 => h9) rfl (by decide +kernel) rfl rfl (Nat.le_of_ble_eq_true rfl) dX3_audit_46 (fun H locs hP hD hS => ?_)
            have hP : va_P G.1 vwCl (wMd G b gc gd gw gf gp ga gb hu_18 gu_18 xu_18 eu_18 n k z t kn (pl + i) (p_flt gc n (pl + i)) pn) H := hP
            have hD : va_D A (wMd G b gc gd gw gf gp ga gb hu_18 gu_18 xu_18 eu_18 n k z t kn (pl + i) (p_flt gc n (pl + i)) pn) := hD
            refine lv_aload_n hx hb dX3_audit_49 rfl (lv_at hl 0 rfl) ?_
            refine va_get (D := G.1) (ci := 3) (v := .int (nI (p_flt gc n (pl + i)))) (C := RX3) (T := TX3) (N := 19) hx hb hts hiX3 hown hK hP 0 rfl rfl 10 (by decide) lk203 (fun _ h9 => h9) rfl dX3_audit_50 ?_
            refine if0_le hx hb (p_flt gc n (pl + i)) 61 (by omega) dX3_audit_53 (by decide) (fun c53 => ?_) (fun c53 => ?_)
            · rw [c53] at hP hD
              have hP : va_P G.1 vwCl (wMd G b gc gd gw gf gp ga gb hu_18 gu_18 xu_18 eu_18 n k z t kn (pl + i) 0 pn) H := hP
              have hD : va_D A (wMd G b gc gd gw gf gp ga gb hu_18 gu_18 xu_18 eu_18 n k z t kn (pl + i) 0 pn) := hD
              refine lv_aload_n hx hb dX3_audit_61 rfl (lv_at hl 0 rfl) ?_
              refine lv_dup hx hb dX3_audit_62 rfl ?_
              refine va_get (D := G.1) (ci := 3) (v := .int (nI (pl + i))) (C := RX3) (T := TX3) (N := 19) hx hb hts hiX3 hown hK hP 0 rfl rfl 9 (by decide) lk181 (fun _ h9 => h9) rfl dX3_audit_63 ?_
              refine lv_iconst (v := nI 1) hx hb dX3_audit_66 (by decide) ?_
              refine ad_N hx hb (pl + i) 1 dX3_audit_67 ?_
              refine va_put (D := G.1) (ci := 3) (v := .int (nI ((pl + i) + 1))) (ty := .int) (C := RX3) (T := TX3) (N := 19) hx hb hts hiX3 tyX3 tyX3_ok nmX3 hown hK hP hD hS 0 rfl rfl 9 (by decide) lk181 (fun _ h9 => h9) rfl (by decide +kernel) rfl rfl (Nat.le_of_ble_eq_true rfl) dX3_audit_68 (fun H locs hP hD hS => ?_)
              have hP : va_P G.1 vwCl (wMd G b gc gd gw gf gp ga gb hu_18 gu_18 xu_18 eu_18 n k z t kn ((pl + i) + 1) 0 pn) H := hP
              have hD : va_D A (wMd G b gc gd gw gf gp ga gb hu_18 gu_18 xu_18 eu_18 n k z t kn ((pl + i) + 1) 0 pn) := hD
              refine lv_iinc (v := nI (i + 1)) (lv' := [(2, .int (nI (i + 1))), (0, .ref (b 0)), (1, .int (nI q))]) hx hb dX3_audit_71 hl (k := 2) rfl (inc_N i 1) (by decide) rfl (fun ls hl => ?_)
              refine lv_goto (tgt := 21) hx hb dX3_audit_74 (by decide) ?_
              exact ih1 (i + 1) hu_18 gu_18 xu_18 eu_18 (by omega) (by omega) (by rw [← hau, show q - i = (q - (i + 1)) + 1 by omega, p_aud, if_neg (by omega), if_pos c53]; rfl) (by omega) _ _ _ hP hD hS (lv_sub hl [1, 2, 0] rfl)
            · refine lv_aload_n hx hb dX3_audit_56 rfl (lv_at hl 0 rfl) ?_
              refine va_get (D := G.1) (ci := 3) (v := .int (nI (pl + i))) (C := RX3) (T := TX3) (N := 19) hx hb hts hiX3 hown hK hP 0 rfl rfl 9 (by decide) lk181 (fun _ h9 => h9) rfl dX3_audit_57 ?_
              exact ret 60 _ _ _ (nI (pl + i)) (hu_18, gu_18, xu_18, eu_18, pl + i, p_flt gc n (pl + i)) dX3_audit_60 (Or.inr ⟨q, by omega, by omega, rfl, by rw [← hau, show q - i = (q - (i + 1)) + 1 by omega, p_aud, if_neg (by omega), if_neg (by omega)]⟩) hP hD hS
    · refine lv_bipush (v := (-2)) hx hb dX3_audit_11 (by decide) ?_
      exact ret 13 _ _ _ (-2) (gh, gg, gx, ge, pl, lf) dX3_audit_13 (Or.inl ⟨Or.inr c8, rfl, rfl, rfl⟩) hP hD hS
set_option maxHeartbeats 4000000 in
set_option maxRecDepth 100000 in
theorem m_next (l : Launch) (G : gG) (sz : Nat) (b : Nat → Nat) (gc gd gw gf gp ga gb gh gg gx ge : Nat → Int32) (n k z t : Nat) (kn : Int32) (pl lf pn : Nat) (x y : Nat) (hn : n ≤ 60) (hk : k ≤ 8) (hz : z ≤ 20) (ht : t ≤ 100000) (hpl : pl ≤ 60) (hlf : lf ≤ 6) (hpn : pn ≤ 1560) (hga : ∀ j, j < 64 → ga j = st_K j) (hgb : ∀ j, j < 8 → gb j = st_S j) (hx0 : x < 60) (hxy : y < x) : MetI l yX3_next wsX3_next ({ frames := 1, cells := 0, slots := 0, locals := 20 } : Room) [.ref (b 0), .int (nI x), .int (nI y)] G (wMd G b gc gd gw gf gp ga gb gh gg gx ge n k z t kn pl lf pn) sz (fun _ : Unit => wMd G b gc gd gw gf gp ga gb gh gg gx ge n k z t kn pl lf pn) (fun r _ => r = nI (p_nx x y)) := by
  refine ent_i _ cX3_next 3 RX3 (by decide) rfl rfl (Nat.le_of_ble_eq_true rfl) ?_
  intro p e s m args below meth c A Q ls hx hb hml hts hown hA hK hX ret hl hP hD hS
  have hl : lv_has ls 3 [(0, .ref (b 0)), (1, .int (nI x)), (2, .int (nI y))] := hl
  refine lv_iload_n hx hb dX3_next_0 rfl (lv_at hl 1 rfl) ?_
  refine lv_iload_n hx hb dX3_next_1 rfl (lv_at hl 1 rfl) ?_
  refine call_Si (wr := ([(b 0, .inr (3, [.ref (b 1), .int (nI n), .ref (b 2), .ref (b 3), .int (nI k), .int (nI z), .int (nI t), .int kn, .ref (b 4), .int (nI pl), .int (nI lf), .ref (b 5), .int (nI pn), .ref (b 6), .ref (b 7), .ref (b 8), .ref (b 9), .ref (b 10), .ref (b 11)])), (b 1, .inl (G.2.2.1, 2040, .inl gc)), (b 2, .inl (G.2.2.1, 8, .inl gd)), (b 3, .inl (G.2.2.1, 8, .inl gw)), (b 4, .inl (G.2.2.2, 1024, .inl gf)), (b 5, .inl (G.2.2.1, 1600, .inl gp)), (b 6, .inl (G.2.2.1, 64, .inl ga)), (b 7, .inl (G.2.2.1, 8, .inl gb)), (b 8, .inl (G.2.2.1, 8, .inl gh)), (b 9, .inl (G.2.2.1, 8, .inl gg)), (b 10, .inl (G.2.2.1, 64, .inl gx)), (b 11, .inl (G.2.2.1, 26, .inl ge))] : va_W)) [.int (nI x)] [.int (nI x)] ⟨hx, hb, hml, hown, hts⟩ hK hX hA hP hD hS (m_lowest l G _ (nI x)) (va_cwS 1 hts gX3_next_X3_lowest rfl rfl rfl (by decide +kernel) ⟨Nat.le_of_ble_eq_true rfl, Nat.le_of_ble_eq_true rfl⟩) [] [0, 1, 2, 3, 4, 5, 6, 7, 8, 9, 10, 11] rfl rfl (by decide) (by decide) (by decide) rfl hl.1 (Nat.le_of_ble_eq_true rfl) dX3_next_2 ⟨Nat.zero_le _, Nat.zero_le _⟩ (fun r_1 u H locs hw hP hD hS => ?_)
  obtain rfl := hw
  have hP : va_P G.1 vwCl (wMd G b gc gd gw gf gp ga gb gh gg gx ge n k z t kn pl lf pn) H := hP
  have hD : va_D A (wMd G b gc gd gw gf gp ga gb gh gg gx ge n k z t kn pl lf pn) := hD
  refine lv_isub hx hb dX3_next_5 ?_
  refine top_i (nI (p_sk x)) (sk_eq x (by omega)) ?_
  have hsk := sk_lt x (by omega) (by omega)
  refine lv_iload_n hx hb dX3_next_6 rfl (lv_at hl 2 rfl) ?_
  refine cmp_lt hx hb (p_sk x) y 19 (by omega) (by omega) dX3_next_7 (by decide) (fun c7 => ?_) (fun c7 => ?_)
  · refine lv_iload_n hx hb dX3_next_19 rfl (lv_at hl 1 rfl) ?_
    refine lv_iconst (v := nI 1) hx hb dX3_next_20 (by decide) ?_
    refine su_N hx hb x 1 (by omega) dX3_next_21 ?_
    exact ret 22 _ _ _ (nI (x - 1)) () dX3_next_22 (by rw [p_nx, if_neg (by omega), if_neg (by omega)]) hP hD hS
  · refine lv_iload_n hx hb dX3_next_10 rfl (lv_at hl 1 rfl) ?_
    refine lv_iload_n hx hb dX3_next_11 rfl (lv_at hl 1 rfl) ?_
    refine call_Si (wr := ([(b 0, .inr (3, [.ref (b 1), .int (nI n), .ref (b 2), .ref (b 3), .int (nI k), .int (nI z), .int (nI t), .int kn, .ref (b 4), .int (nI pl), .int (nI lf), .ref (b 5), .int (nI pn), .ref (b 6), .ref (b 7), .ref (b 8), .ref (b 9), .ref (b 10), .ref (b 11)])), (b 1, .inl (G.2.2.1, 2040, .inl gc)), (b 2, .inl (G.2.2.1, 8, .inl gd)), (b 3, .inl (G.2.2.1, 8, .inl gw)), (b 4, .inl (G.2.2.2, 1024, .inl gf)), (b 5, .inl (G.2.2.1, 1600, .inl gp)), (b 6, .inl (G.2.2.1, 64, .inl ga)), (b 7, .inl (G.2.2.1, 8, .inl gb)), (b 8, .inl (G.2.2.1, 8, .inl gh)), (b 9, .inl (G.2.2.1, 8, .inl gg)), (b 10, .inl (G.2.2.1, 64, .inl gx)), (b 11, .inl (G.2.2.1, 26, .inl ge))] : va_W)) [.int (nI x)] [.int (nI x)] ⟨hx, hb, hml, hown, hts⟩ hK hX hA hP hD hS (m_lowest l G _ (nI x)) (va_cwS 1 hts gX3_next_X3_lowest rfl rfl rfl (by decide +kernel) ⟨Nat.le_of_ble_eq_true rfl, Nat.le_of_ble_eq_true rfl⟩) [] [0, 1, 2, 3, 4, 5, 6, 7, 8, 9, 10, 11] rfl rfl (by decide) (by decide) (by decide) rfl hl.1 (Nat.le_of_ble_eq_true rfl) dX3_next_12 ⟨Nat.zero_le _, Nat.zero_le _⟩ (fun r_3 u H locs hw hP hD hS => ?_)
    obtain rfl := hw
    have hP : va_P G.1 vwCl (wMd G b gc gd gw gf gp ga gb gh gg gx ge n k z t kn pl lf pn) H := hP
    have hD : va_D A (wMd G b gc gd gw gf gp ga gb gh gg gx ge n k z t kn pl lf pn) := hD
    refine lv_isub hx hb dX3_next_15 ?_
    refine top_i (nI (p_sk x)) (sk_eq x (by omega)) ?_
    have hsk := sk_lt x (by omega) (by omega)
    refine lv_goto (tgt := 22) hx hb dX3_next_16 (by decide) ?_
    exact ret 22 _ _ _ (nI (p_sk x)) () dX3_next_22 (by rw [p_nx, if_neg (by omega), if_pos c7]) hP hD hS
set_option maxHeartbeats 4000000 in
set_option maxRecDepth 100000 in
theorem m_way (l : Launch) (G : gG) (sz : Nat) (b : Nat → Nat) (gc gd gw gf gp ga gb gh gg gx ge : Nat → Int32) (n k z t : Nat) (kn : Int32) (pl lf pn : Nat) (x w : Int32) (hn : n ≤ 60) (hk : k ≤ 8) (hz : z ≤ 20) (ht : t ≤ 100000) (hpl : pl ≤ 60) (hlf : lf ≤ 6) (hpn : pn ≤ 1560) (hga : ∀ j, j < 64 → ga j = st_K j) (hgb : ∀ j, j < 8 → gb j = st_S j)  : MetI l yX3_way wsX3_way ({ frames := 2, cells := 0, slots := 0, locals := 42 } : Room) [.ref (b 0), .int x, .int w] G (wMd G b gc gd gw gf gp ga gb gh gg gx ge n k z t kn pl lf pn) sz (fun _ : Unit => wMd G b gc gd gw gf gp ga gb gh gg gx ge n k z t kn pl lf pn) (fun r _ => q_way n x w r) := by
  refine ent_i _ cX3_way 5 RX3 (by decide) rfl rfl (Nat.le_of_ble_eq_true rfl) ?_
  intro p e s m args below meth c A Q ls hx hb hml hts hown hA hK hX ret hl hP hD hS
  have hl : lv_has ls 5 [(0, .ref (b 0)), (1, .int x), (2, .int w)] := hl
  have lk141 := hts (.fieldLink RX3 141 "MinedLedgerModel" "count" "I") (by decide +kernel)
  have hiX3 : ∀ w ∈ wsX30, w ∈ wsX3_way := by decide +kernel
  refine lv_iload_n hx hb dX3_way_0 rfl (lv_at hl 1 rfl) ?_
  refine ifz_lt hx hb x 12 dX3_way_1 (by decide) (fun c1 => ?_) (fun c1 => ?_)
  · refine lv_bipush (v := (-2)) hx hb dX3_way_12 (by decide) ?_
    exact ret 14 _ _ _ (-2) () dX3_way_14 (Or.inl ⟨ok_F (Or.inl c1), rfl⟩) hP hD hS
  · refine lv_iload_n hx hb dX3_way_4 rfl (lv_at hl 1 rfl) ?_
    refine lv_aload_n hx hb dX3_way_5 rfl (lv_at hl 0 rfl) ?_
    refine va_get (D := G.1) (ci := 3) (v := .int (nI n)) (C := RX3) (T := TX3) (N := 19) hx hb hts hiX3 hown hK hP 0 rfl rfl 1 (by decide) lk141 (fun _ h9 => h9) rfl dX3_way_6 ?_
    refine cmz_ltzn hx hb x n 15 (by omega) dX3_way_9 (by decide) (fun c9 => ?_) (fun c9 => ?_)
    · obtain ⟨y, hy, rfl⟩ := in_N (by omega) c1 c9
      refine lv_iload_n hx hb dX3_way_15 rfl (lv_at hl 2 rfl) ?_
      refine ifz_ge hx hb w 21 dX3_way_16 (by decide) (fun c16 => ?_) (fun c16 => ?_)
      · obtain ⟨j, hj, rfl⟩ := of_nn (x := w) c16
        obtain ⟨K, hK0⟩ := end_ex (x := n - 1) (e := y) (by omega) (by omega)
        refine lv_aload_n hx hb dX3_way_21 rfl (lv_at hl 0 rfl) ?_
        refine va_get (D := G.1) (ci := 3) (v := .int (nI n)) (C := RX3) (T := TX3) (N := 19) hx hb hts hiX3 hown hK hP 0 rfl rfl 1 (by decide) lk141 (fun _ h9 => h9) rfl dX3_way_22 ?_
        refine lv_iconst (v := nI 1) hx hb dX3_way_25 (by decide) ?_
        refine su_N hx hb n 1 (by omega) dX3_way_26 ?_
        refine lv_istore_n (lv' := [(3, .int (nI (n - 1))), (0, .ref (b 0)), (1, .int (nI y)), (2, .int (nI j))]) hx hb dX3_way_27 rfl hl (by decide) rfl (fun ls hl => ?_)
        refine lv_iconst (v := nI 0) hx hb dX3_way_28 (by decide) ?_
        refine lv_istore (lv' := [(4, .int (nI 0)), (3, .int (nI (n - 1))), (0, .ref (b 0)), (1, .int (nI y)), (2, .int (nI j))]) hx hb dX3_way_29 hl (by decide) rfl (fun ls hl => ?_)
        suffices hloop1 : ∀ (fu1 : Nat) (i : Nat), (i ≤ j) → (i ≤ K) → j - i < fu1 → ∀ (H : Heap) (locs : List Loc) (ls : Array Slot), va_P G.1 vwCl (wMd G b gc gd gw gf gp ga gb gh gg gx ge n k z t kn pl lf pn) H → va_D A (wMd G b gc gd gw gf gp ga gb gh gg gx ge n k z t kn pl lf pn) → va_S A s.heap H locs → lv_has ls 5 [(0, .ref (b 0)), (1, .int (nI y)), (2, .int (nI j)), (3, .int (nI (p_way (n - 1) y i))), (4, .int (nI i))] → W p l e ({ frames := 2, cells := 0, slots := 0, locals := 42 } : Room) s m args below meth c H locs 0 0 Q (F0 m 31 ls []) from hloop1 _ 0 (Nat.zero_le _) (Nat.zero_le _) (Nat.lt_succ_self _) _ _ _ hP hD hS (lv_sub hl [2, 3, 4, 1, 0] rfl)
        clear hP hD hS hl
        intro fu1
        induction fu1 with
        | zero => intro i hi hiK hfu; exact absurd hfu (Nat.not_lt_zero _)
        | succ fu1 ih1 =>
          intro i hi hiK hfu1 H locs ls hP hD hS hl
          refine lv_iload hx hb dX3_way_31 (lv_at hl 4 rfl) ?_
          refine lv_iload_n hx hb dX3_way_33 rfl (lv_at hl 2 rfl) ?_
          refine cmp_ge hx hb i j 55 (by omega) (by omega) dX3_way_34 (by decide) (fun c34 => ?_) (fun c34 => ?_)
          · have hwl := end_le (i := i) hn hK0 hiK
            refine lv_iload hx hb dX3_way_55 (lv_at hl 4 rfl) ?_
            refine lv_iload_n hx hb dX3_way_57 rfl (lv_at hl 2 rfl) ?_
            refine cmp_ne hx hb i j 65 (by omega) (by omega) dX3_way_58 (by decide) (fun c58 => ?_) (fun c58 => ?_)
            · exfalso; omega
            · refine lv_iload_n hx hb dX3_way_61 rfl (lv_at hl 3 rfl) ?_
              refine lv_goto (tgt := 66) hx hb dX3_way_62 (by decide) ?_
              exact ret 66 _ _ _ (nI (p_way (n - 1) y i)) () dX3_way_66 (Or.inr ⟨y, K, hy, rfl, hK0, Or.inr ⟨i, hiK, by rw [show j = i by omega], rfl⟩⟩) hP hD hS
          · have hwl := end_le (i := i) hn hK0 hiK
            refine lv_iload_n hx hb dX3_way_37 rfl (lv_at hl 3 rfl) ?_
            refine lv_iload_n hx hb dX3_way_38 rfl (lv_at hl 1 rfl) ?_
            refine cmp_le hx hb (p_way (n - 1) y i) y 55 (by omega) (by omega) dX3_way_39 (by decide) (fun c39 => ?_) (fun c39 => ?_)
            · have hwl := end_le (i := i) hn hK0 hiK
              refine lv_iload hx hb dX3_way_55 (lv_at hl 4 rfl) ?_
              refine lv_iload_n hx hb dX3_way_57 rfl (lv_at hl 2 rfl) ?_
              refine cmp_ne hx hb i j 65 (by omega) (by omega) dX3_way_58 (by decide) (fun c58 => ?_) (fun c58 => ?_)
              · refine lv_iconst (v := (-1)) hx hb dX3_way_65 (by decide) ?_
                exact ret 66 _ _ _ (-1) () dX3_way_66 (Or.inr ⟨y, K, hy, rfl, hK0, Or.inl ⟨Or.inr (by rw [tI_N hj]; have : K = i := Nat.le_antisymm (Nat.le_of_not_lt fun z => by have := hK0.1 i z; omega) hiK; omega), rfl⟩⟩) hP hD hS
              · refine lv_iload_n hx hb dX3_way_61 rfl (lv_at hl 3 rfl) ?_
                refine lv_goto (tgt := 66) hx hb dX3_way_62 (by decide) ?_
                exact ret 66 _ _ _ (nI (p_way (n - 1) y i)) () dX3_way_66 (Or.inr ⟨y, K, hy, rfl, hK0, Or.inr ⟨i, hiK, by rw [show j = i by omega], rfl⟩⟩) hP hD hS
            · refine lv_aload_n hx hb dX3_way_42 rfl (lv_at hl 0 rfl) ?_
              refine lv_iload_n hx hb dX3_way_43 rfl (lv_at hl 3 rfl) ?_
              refine lv_iload_n hx hb dX3_way_44 rfl (lv_at hl 1 rfl) ?_
              refine call_Vi (wr := ([] : va_W)) [.int (nI (p_way (n - 1) y i)), .int (nI y)] [] ⟨hx, hb, hml, hown, hts⟩ hK hX hA hP hD hS (m_next l G _ b gc gd gw gf gp ga gb gh gg gx ge n k z t kn pl lf pn (p_way (n - 1) y i) y (by omega) (by omega) (by omega) (by omega) (by omega) (by omega) (by omega) hga hgb (by omega) (by omega)) (cwV 2 hts gX3_way_X3_next rfl rfl rfl (by decide +kernel) ⟨Nat.le_of_ble_eq_true rfl, Nat.le_of_ble_eq_true rfl⟩) 3 0 rfl rfl rfl [0, 1, 2, 3, 4, 5, 6, 7, 8, 9, 10, 11] [] rfl rfl (by decide) (by decide) (by decide) rfl hl.1 (Nat.le_of_ble_eq_true rfl) dX3_way_45 ⟨Nat.zero_le _, Nat.zero_le _⟩ (fun r_8 u H locs hw hP hD hS => ?_)
              obtain rfl := hw
              have hP : va_P G.1 vwCl (wMd G b gc gd gw gf gp ga gb gh gg gx ge n k z t kn pl lf pn) H := hP
              have hD : va_D A (wMd G b gc gd gw gf gp ga gb gh gg gx ge n k z t kn pl lf pn) := hD
              refine lv_istore_n (lv' := [(3, .int (nI (p_nx (p_way (n - 1) y i) y))), (0, .ref (b 0)), (1, .int (nI y)), (2, .int (nI j)), (4, .int (nI i))]) hx hb dX3_way_48 rfl hl (by decide) rfl (fun ls hl => ?_)
              refine lv_iinc (v := nI (i + 1)) (lv' := [(4, .int (nI (i + 1))), (3, .int (nI (p_nx (p_way (n - 1) y i) y))), (0, .ref (b 0)), (1, .int (nI y)), (2, .int (nI j))]) hx hb dX3_way_49 hl (k := 4) rfl (inc_N i 1) (by decide) rfl (fun ls hl => ?_)
              refine lv_goto (tgt := 31) hx hb dX3_way_52 (by decide) ?_
              exact ih1 (i + 1) (by omega) (by rcases Nat.lt_or_ge i K with q1 | q1; omega; have := hK0.2; rw [show K = i by omega] at this; omega) (by omega) _ _ _ hP hD hS (lv_sub hl [2, 3, 4, 1, 0] rfl)
      · refine lv_iconst (v := (-1)) hx hb dX3_way_19 (by decide) ?_
        exact ret 20 _ _ _ (-1) () dX3_way_20 (by obtain ⟨K0, hK0⟩ := end_ex (x := n - 1) (e := y) (by omega) (by omega); exact Or.inr ⟨y, K0, hy, rfl, hK0, Or.inl ⟨Or.inl c16, rfl⟩⟩) hP hD hS
    · refine lv_bipush (v := (-2)) hx hb dX3_way_12 (by decide) ?_
      exact ret 14 _ _ _ (-2) () dX3_way_14 (Or.inl ⟨ok_F (Or.inr c9), rfl⟩) hP hD hS
