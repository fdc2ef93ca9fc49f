theorem bI_01 (b : Bool) : bI b = 0 ∨ bI b = 1 := by cases b with | false => exact Or.inl rfl | true => exact Or.inr rfl
set_option maxHeartbeats 4000000 in
set_option maxRecDepth 100000 in
theorem m_maybe (l : Launch) (G : gG) (sz : Nat) (b : Nat → Nat) (gc gd gw gf gp ga gb gh gg gx ge : Nat → Int32) (n k z t : Nat) (kn : Int32) (pl lf pn : Nat) (x : Int32) (hn : n ≤ 60) (hk : k ≤ 8) (hz : z ≤ 20) (ht : t ≤ 100000) (hpl : pl ≤ 60) (hlf : lf ≤ 6) (hpn : pn ≤ 1560) (hga : ∀ j, j < 64 → ga j = st_K j) (hgb : ∀ j, j < 8 → gb j = st_S j)  : MetI l yX3_maybe wsX3_maybe ({ frames := 3, cells := 0, slots := 0, locals := 67 } : Room) [.ref (b 0), .int x] G (wMd G b gc gd gw gf gp ga gb gh gg gx ge n k z t kn pl lf pn) sz (fun _ : Unit => wMd G b gc gd gw gf gp ga gb gh gg gx ge n k z t kn pl lf pn) (fun r _ => r = bI (allN (p_mh gf x) 4)) := by
  refine ent_z _ cX3_maybe 4 RX3 (by decide) rfl rfl (Nat.le_of_ble_eq_true rfl) ?_
  intro p e s m args below meth c A Q ls hx hb hml hts hown hA hK hX ret hl hP hD hS
  have hl : lv_has ls 4 [(0, .ref (b 0)), (1, .int x)] := hl
  have lk23 := hts (.fieldLink RX3 23 "MinedLedgerModel" "filter" "[Z") (by decide +kernel)
  have hiX3 : ∀ w ∈ wsX30, w ∈ wsX3_maybe := by decide +kernel
  refine lv_iconst (v := nI 1) hx hb dX3_maybe_0 (by decide) ?_
  refine lv_istore_n (lv' := [(2, .int (nI 1)), (0, .ref (b 0)), (1, .int x)]) hx hb dX3_maybe_1 rfl hl (by decide) rfl (fun ls hl => ?_)
  refine lv_iconst (v := nI 0) hx hb dX3_maybe_2 (by decide) ?_
  refine lv_istore_n (lv' := [(3, .int (nI 0)), (2, .int (nI 1)), (0, .ref (b 0)), (1, .int x)]) hx hb dX3_maybe_3 rfl hl (by decide) rfl (fun ls hl => ?_)
  suffices hloop1 : ∀ (fu1 : Nat) (i : Nat) (bb : Bool), (i ≤ 4) → (bb = allN (p_mh gf x) i) → 4 - i < fu1 → ∀ (H : Heap) (locs : List Loc) (ls : Array Slot), va_P G.1 vwCl (wMd G b gc gd gw gf gp ga gb gh gg gx ge n k z t kn pl lf pn) H → va_D A (wMd G b gc gd gw gf gp ga gb gh gg gx ge n k z t kn pl lf pn) → va_S A s.heap H locs → lv_has ls 4 [(0, .ref (b 0)), (1, .int x), (2, .int (bI bb)), (3, .int (nI i))] → W p l e ({ frames := 3, cells := 0, slots := 0, locals := 67 } : Room) s m args below meth c H locs 0 0 Q (F0 m 4 ls []) from hloop1 _ 0 true (Nat.zero_le _) rfl (Nat.lt_succ_self _) _ _ _ hP hD hS (lv_sub hl [2, 3, 1, 0] rfl)
  clear hP hD hS hl
  intro fu1
  induction fu1 with
  | zero => intro i bb hi hbb hfu; exact absurd hfu (Nat.not_lt_zero _)
  | succ fu1 ih1 =>
    intro i bb hi hbb hfu1 H locs ls hP hD hS hl
    refine lv_iload_n hx hb dX3_maybe_4 rfl (lv_at hl 3 rfl) ?_
    refine lv_iconst (v := nI 4) hx hb dX3_maybe_5 (by decide) ?_
    refine cmp_ge hx hb i 4 39 (by omega) (by omega) dX3_maybe_6 (by decide) (fun c6 => ?_) (fun c6 => ?_)
    · have e39 : i = 4 := by omega
      subst e39
      refine lv_iload_n hx hb dX3_maybe_39 rfl (lv_at hl 2 rfl) ?_
      exact ret 40 _ _ _ (bI bb) () dX3_maybe_40 (bI_01 _) (by rw [hbb]) hP hD hS
    · refine lv_iload_n hx hb dX3_maybe_9 rfl (lv_at hl 2 rfl) ?_
      refine lv_if_eq (tgt := 31) hx hb dX3_maybe_10 (by decide) (fun c10 => ?_) (fun c10 => ?_)
      · refine lv_iconst (v := nI 0) hx hb dX3_maybe_31 (by decide) ?_
        refine lv_istore_n (lv' := [(2, .int (nI 0)), (0, .ref (b 0)), (1, .int x), (3, .int (nI i))]) hx hb dX3_maybe_32 rfl hl (by decide) rfl (fun ls hl => ?_)
        refine lv_iinc (v := nI (i + 1)) (lv' := [(3, .int (nI (i + 1))), (2, .int (nI 0)), (0, .ref (b 0)), (1, .int x)]) hx hb dX3_maybe_33 hl (k := 3) rfl (inc_N i 1) (by decide) rfl (fun ls hl => ?_)
        refine lv_goto (tgt := 4) hx hb dX3_maybe_36 (by decide) ?_
        exact ih1 (i + 1) false (by omega) (by rw [allN, ← hbb, bI_z c10]; rfl) (by omega) _ _ _ hP hD hS (lv_sub hl [2, 3, 1, 0] rfl)
      · refine lv_aload_n hx hb dX3_maybe_13 rfl (lv_at hl 0 rfl) ?_
        refine va_get (D := G.1) (ci := 3) (v := .ref (b 4)) (C := RX3) (T := TX3) (N := 19) hx hb hts hiX3 hown hK hP 0 rfl rfl 8 (by decide) lk23 (fun _ h9 => h9) rfl dX3_maybe_14 ?_
        refine lv_aload_n hx hb dX3_maybe_17 rfl (lv_at hl 0 rfl) ?_
        refine lv_iload_n hx hb dX3_maybe_18 rfl (lv_at hl 1 rfl) ?_
        refine lv_iload_n hx hb dX3_maybe_19 rfl (lv_at hl 3 rfl) ?_
        refine call_Vi (wr := ([] : va_W)) [.int x, .int (nI i)] [.ref (b 4)] ⟨hx, hb, hml, hown, hts⟩ hK hX hA hP hD hS (m_bit l G _ b gc gd gw gf gp ga gb gh gg gx ge n k z t kn pl lf pn x (nI i) (by omega) (by omega) (by omega) (by omega) (by omega) (by omega) (by omega) hga hgb) (cwV 2 hts gX3_maybe_X3_bit rfl rfl rfl (by decide +kernel) ⟨Nat.le_of_ble_eq_true rfl, Nat.le_of_ble_eq_true rfl⟩) 3 0 rfl rfl rfl [0, 1, 2, 3, 4, 5, 6, 7, 8, 9, 10, 11] [] rfl rfl (by decide) (by decide) (by decide) rfl hl.1 (Nat.le_of_ble_eq_true rfl) dX3_maybe_20 ⟨Nat.zero_le _, Nat.zero_le _⟩ (fun r_3 u H locs hw hP hD hS => ?_)
        obtain rfl := hw
        have hP : va_P G.1 vwCl (wMd G b gc gd gw gf gp ga gb gh gg gx ge n k z t kn pl lf pn) H := hP
        have hD : va_D A (wMd G b gc gd gw gf gp ga gb gh gg gx ge n k z t kn pl lf pn) := hD
        have hbl := p_bit_lt x (nI i)
        refine rd_z hx hb hK hP 4 rfl (p_bit x (nI i)) (by omega) (by omega) dX3_maybe_23 ?_
        refine lv_if_eq (tgt := 31) hx hb dX3_maybe_24 (by decide) (fun c24 => ?_) (fun c24 => ?_)
        · refine lv_iconst (v := nI 0) hx hb dX3_maybe_31 (by decide) ?_
          refine lv_istore_n (lv' := [(2, .int (nI 0)), (0, .ref (b 0)), (1, .int x), (3, .int (nI i))]) hx hb dX3_maybe_32 rfl hl (by decide) rfl (fun ls hl => ?_)
          refine lv_iinc (v := nI (i + 1)) (lv' := [(3, .int (nI (i + 1))), (2, .int (nI 0)), (0, .ref (b 0)), (1, .int x)]) hx hb dX3_maybe_33 hl (k := 3) rfl (inc_N i 1) (by decide) rfl (fun ls hl => ?_)
          refine lv_goto (tgt := 4) hx hb dX3_maybe_36 (by decide) ?_
          exact ih1 (i + 1) false (by omega) (by rw [allN, ← hbb, bI_n c10]; exact (by simp only [p_mh]; rw [decide_eq_true c24]; rfl)) (by omega) _ _ _ hP hD hS (lv_sub hl [2, 3, 1, 0] rfl)
        · refine lv_iconst (v := nI 1) hx hb dX3_maybe_27 (by decide) ?_
          refine lv_goto (tgt := 32) hx hb dX3_maybe_28 (by decide) ?_
          refine lv_istore_n (lv' := [(2, .int (nI 1)), (0, .ref (b 0)), (1, .int x), (3, .int (nI i))]) hx hb dX3_maybe_32 rfl hl (by decide) rfl (fun ls hl => ?_)
          refine lv_iinc (v := nI (i + 1)) (lv' := [(3, .int (nI (i + 1))), (2, .int (nI 1)), (0, .ref (b 0)), (1, .int x)]) hx hb dX3_maybe_33 hl (k := 3) rfl (inc_N i 1) (by decide) rfl (fun ls hl => ?_)
          refine lv_goto (tgt := 4) hx hb dX3_maybe_36 (by decide) ?_
          exact ih1 (i + 1) true (by omega) (by rw [allN, ← hbb, bI_n c10]; exact (by simp only [p_mh]; rw [decide_eq_false c24]; rfl)) (by omega) _ _ _ hP hD hS (lv_sub hl [2, 3, 1, 0] rfl)
set_option maxHeartbeats 4000000 in
set_option maxRecDepth 100000 in
theorem m_may (l : Launch) (G : gG) (sz : Nat) (b : Nat → Nat) (gc gd gw gf gp ga gb gh gg gx ge : Nat → Int32) (n k z t : Nat) (kn : Int32) (pl lf pn : Nat) (x : Int32) (hn : n ≤ 60) (hk : k ≤ 8) (hz : z ≤ 20) (ht : t ≤ 100000) (hpl : pl ≤ 60) (hlf : lf ≤ 6) (hpn : pn ≤ 1560) (hga : ∀ j, j < 64 → ga j = st_K j) (hgb : ∀ j, j < 8 → gb j = st_S j)  : MetI l yX3_may wsX3_may ({ frames := 4, cells := 0, slots := 0, locals := 90 } : Room) [.ref (b 0), .int x] G (wMd G b gc gd gw gf gp ga gb gh gg gx ge n k z t kn pl lf pn) sz (fun _ : Unit => wMd G b gc gd gw gf gp ga gb gh gg gx ge n k z t kn pl lf pn) (fun r _ => r = bI (allN (p_mh gf x) 4)) := by
  refine ent_i _ cX3_may 2 RX3 (by decide) rfl rfl (Nat.le_of_ble_eq_true rfl) ?_
  intro p e s m args below meth c A Q ls hx hb hml hts hown hA hK hX ret hl hP hD hS
  have hl : lv_has ls 2 [(0, .ref (b 0)), (1, .int x)] := hl
  refine lv_aload_n hx hb dX3_may_0 rfl (lv_at hl 0 rfl) ?_
  refine lv_iload_n hx hb dX3_may_1 rfl (lv_at hl 1 rfl) ?_
  refine call_Vi (wr := ([] : va_W)) [.int x] [] ⟨hx, hb, hml, hown, hts⟩ hK hX hA hP hD hS (m_maybe l G _ b gc gd gw gf gp ga gb gh gg gx ge n k z t kn pl lf pn x (by omega) (by omega) (by omega) (by omega) (by omega) (by omega) (by omega) hga hgb) (cwV 1 hts gX3_may_X3_maybe rfl rfl rfl (by decide +kernel) ⟨Nat.le_of_ble_eq_true rfl, Nat.le_of_ble_eq_true rfl⟩) 3 0 rfl rfl rfl [0, 1, 2, 3, 4, 5, 6, 7, 8, 9, 10, 11] [] rfl rfl (by decide) (by decide) (by decide) rfl hl.1 (Nat.le_of_ble_eq_true rfl) dX3_may_2 ⟨Nat.zero_le _, Nat.zero_le _⟩ (fun r_1 u H locs hw hP hD hS => ?_)
  obtain rfl := hw
  have hP : va_P G.1 vwCl (wMd G b gc gd gw gf gp ga gb gh gg gx ge n k z t kn pl lf pn) H := hP
  have hD : va_D A (wMd G b gc gd gw gf gp ga gb gh gg gx ge n k z t kn pl lf pn) := hD
  refine lv_if_eq (tgt := 12) hx hb dX3_may_5 (by decide) (fun c5 => ?_) (fun c5 => ?_)
  · refine lv_iconst (v := nI 0) hx hb dX3_may_12 (by decide) ?_
    exact ret 13 _ _ _ (nI 0) () dX3_may_13 (by rw [bI_z c5]; rfl) hP hD hS
  · refine lv_iconst (v := nI 1) hx hb dX3_may_8 (by decide) ?_
    refine lv_goto (tgt := 13) hx hb dX3_may_9 (by decide) ?_
    exact ret 13 _ _ _ (nI 1) () dX3_may_13 (by rw [bI_n c5]; rfl) hP hD hS
set_option maxHeartbeats 4000000 in
set_option maxRecDepth 100000 in
theorem m_find (l : Launch) (G : gG) (sz : Nat) (b : Nat → Nat) (gc gd gw gf gp ga gb gh gg gx ge : Nat → Int32) (n k z t : Nat) (kn : Int32) (pl lf pn : Nat) (x : Int32) (hn : n ≤ 60) (hk : k ≤ 8) (hz : z ≤ 20) (ht : t ≤ 100000) (hpl : pl ≤ 60) (hlf : lf ≤ 6) (hpn : pn ≤ 1560) (hga : ∀ j, j < 64 → ga j = st_K j) (hgb : ∀ j, j < 8 → gb j = st_S j)  : MetI l yX3_find wsX3_find ({ frames := 4, cells := 0, slots := 0, locals := 90 } : Room) [.ref (b 0), .int x] G (wMd G b gc gd gw gf gp ga gb gh gg gx ge n k z t kn pl lf pn) sz (fun _ : Unit => wMd G b gc gd gw gf gp ga gb gh gg gx ge n k z t kn pl lf pn) (fun r _ => r_find gf gc n x r) := by
  refine ent_i _ cX3_find 4 RX3 (by decide) rfl rfl (Nat.le_of_ble_eq_true rfl) ?_
  intro p e s m args below meth c A Q ls hx hb hml hts hown hA hK hX ret hl hP hD hS
  have hl : lv_has ls 4 [(0, .ref (b 0)), (1, .int x)] := hl
  have lk7 := hts (.fieldLink RX3 7 "MinedLedgerModel" "cells" "[I") (by decide +kernel)
  have lk141 := hts (.fieldLink RX3 141 "MinedLedgerModel" "count" "I") (by decide +kernel)
  have hiX3 : ∀ w ∈ wsX30, w ∈ wsX3_find := by decide +kernel
  refine lv_aload_n hx hb dX3_find_0 rfl (lv_at hl 0 rfl) ?_
  refine lv_iload_n hx hb dX3_find_1 rfl (lv_at hl 1 rfl) ?_
  refine call_Vi (wr := ([] : va_W)) [.int x] [] ⟨hx, hb, hml, hown, hts⟩ hK hX hA hP hD hS (m_maybe l G _ b gc gd gw gf gp ga gb gh gg gx ge n k z t kn pl lf pn x (by omega) (by omega) (by omega) (by omega) (by omega) (by omega) (by omega) hga hgb) (cwV 1 hts gX3_find_X3_maybe rfl rfl rfl (by decide +kernel) ⟨Nat.le_of_ble_eq_true rfl, Nat.le_of_ble_eq_true rfl⟩) 3 0 rfl rfl rfl [0, 1, 2, 3, 4, 5, 6, 7, 8, 9, 10, 11] [] rfl rfl (by decide) (by decide) (by decide) rfl hl.1 (Nat.le_of_ble_eq_true rfl) dX3_find_2 ⟨Nat.zero_le _, Nat.zero_le _⟩ (fun r_1 u H locs hw hP hD hS => ?_)
  obtain rfl := hw
  have hP : va_P G.1 vwCl (wMd G b gc gd gw gf gp ga gb gh gg gx ge n k z t kn pl lf pn) H := hP
  have hD : va_D A (wMd G b gc gd gw gf gp ga gb gh gg gx ge n k z t kn pl lf pn) := hD
  refine lv_if_ne (tgt := 10) hx hb dX3_find_5 (by decide) (fun c5 => ?_) (fun c5 => ?_)
  · refine lv_iconst (v := nI 0) hx hb dX3_find_10 (by decide) ?_
    refine lv_istore_n (lv' := [(2, .int (nI 0)), (0, .ref (b 0)), (1, .int x)]) hx hb dX3_find_11 rfl hl (by decide) rfl (fun ls hl => ?_)
    suffices hloop1 : ∀ (fu1 : Nat) (i : Nat), (i ≤ n) → (∀ j, j < i → p_hw gc x j = false) → n - i < fu1 → ∀ (H : Heap) (locs : List Loc) (ls : Array Slot), va_P G.1 vwCl (wMd G b gc gd gw gf gp ga gb gh gg gx ge n k z t kn pl lf pn) H → va_D A (wMd G b gc gd gw gf gp ga gb gh gg gx ge n k z t kn pl lf pn) → va_S A s.heap H locs → lv_has ls 4 [(0, .ref (b 0)), (1, .int x), (2, .int (nI i))] → W p l e ({ frames := 4, cells := 0, slots := 0, locals := 90 } : Room) s m args below meth c H locs 0 0 Q (F0 m 12 ls []) from hloop1 _ 0 (Nat.zero_le _) (fun j h => absurd h (Nat.not_lt_zero j)) (Nat.lt_succ_self _) _ _ _ hP hD hS (lv_sub hl [1, 2, 0] rfl)
    clear hP hD hS hl
    intro fu1
    induction fu1 with
    | zero => intro i hi hm hfu; exact absurd hfu (Nat.not_lt_zero _)
    | succ fu1 ih1 =>
      intro i hi hm hfu1 H locs ls hP hD hS hl
      refine lv_iload_n hx hb dX3_find_12 rfl (lv_at hl 2 rfl) ?_
      refine lv_aload_n hx hb dX3_find_13 rfl (lv_at hl 0 rfl) ?_
      refine va_get (D := G.1) (ci := 3) (v := .int (nI n)) (C := RX3) (T := TX3) (N := 19) hx hb hts hiX3 hown hK hP 0 rfl rfl 1 (by decide) lk141 (fun _ h9 => h9) rfl dX3_find_14 ?_
      refine cmp_ge hx hb i n 58 (by omega) (by omega) dX3_find_17 (by decide) (fun c17 => ?_) (fun c17 => ?_)
      · refine lv_iconst (v := (-1)) hx hb dX3_find_58 (by decide) ?_
        exact ret 59 _ _ _ (-1) () dX3_find_59 (Or.inr ⟨bI_n c5, Or.inr ⟨rfl, fun j hj => hm j (by omega)⟩⟩) hP hD hS
      · refine lv_bipush (v := nI 16) hx hb dX3_find_20 (by decide) ?_
        refine lv_istore_n (lv' := [(3, .int (nI 16)), (0, .ref (b 0)), (1, .int x), (2, .int (nI i))]) hx hb dX3_find_22 rfl hl (by decide) rfl (fun ls hl => ?_)
        suffices hloop2 : ∀ (fu2 : Nat) (j : Nat), (j ≤ 8) → (∀ a, a < j → ¬ decide (gc (i * 34 + 16 + a) = x) = true) → 8 - j < fu2 → ∀ (H : Heap) (locs : List Loc) (ls : Array Slot), va_P G.1 vwCl (wMd G b gc gd gw gf gp ga gb gh gg gx ge n k z t kn pl lf pn) H → va_D A (wMd G b gc gd gw gf gp ga gb gh gg gx ge n k z t kn pl lf pn) → va_S A s.heap H locs → lv_has ls 4 [(0, .ref (b 0)), (1, .int x), (2, .int (nI i)), (3, .int (nI (16 + j)))] → W p l e ({ frames := 4, cells := 0, slots := 0, locals := 90 } : Room) s m args below meth c H locs 0 0 Q (F0 m 23 ls []) from hloop2 _ 0 (Nat.zero_le _) (fun j h => absurd h (Nat.not_lt_zero j)) (Nat.lt_succ_self _) _ _ _ hP hD hS (lv_sub hl [1, 2, 3, 0] rfl)
        clear hP hD hS hl
        intro fu2
        induction fu2 with
        | zero => intro j hj hmj hfu; exact absurd hfu (Nat.not_lt_zero _)
        | succ fu2 ih2 =>
          intro j hj hmj hfu2 H locs ls hP hD hS hl
          refine lv_iload_n hx hb dX3_find_23 rfl (lv_at hl 3 rfl) ?_
          refine lv_bipush (v := nI 24) hx hb dX3_find_24 (by decide) ?_
          refine cmp_ge hx hb (16 + j) 24 52 (by omega) (by omega) dX3_find_26 (by decide) (fun c26 => ?_) (fun c26 => ?_)
          · have e52 : j = 8 := by omega
            subst e52
            have hwF : p_hw gc x i = false := anyN_F hmj
            refine lv_iinc (v := nI (i + 1)) (lv' := [(2, .int (nI (i + 1))), (0, .ref (b 0)), (1, .int x), (3, .int (nI (16 + 8)))]) hx hb dX3_find_52 hl (k := 2) rfl (inc_N i 1) (by decide) rfl (fun ls hl => ?_)
            refine lv_goto (tgt := 12) hx hb dX3_find_55 (by decide) ?_
            exact ih1 (i + 1) (by omega) (lt_s hm hwF) (by omega) _ _ _ hP hD hS (lv_sub hl [1, 2, 0] rfl)
          · refine lv_aload_n hx hb dX3_find_29 rfl (lv_at hl 0 rfl) ?_
            refine va_get (D := G.1) (ci := 3) (v := .ref (b 1)) (C := RX3) (T := TX3) (N := 19) hx hb hts hiX3 hown hK hP 0 rfl rfl 0 (by decide) lk7 (fun _ h9 => h9) rfl dX3_find_30 ?_
            refine lv_bipush (v := nI 34) hx hb dX3_find_33 (by decide) ?_
            refine lv_iload_n hx hb dX3_find_35 rfl (lv_at hl 2 rfl) ?_
            refine mu_N hx hb 34 i dX3_find_36 ?_
            refine lv_iload_n hx hb dX3_find_37 rfl (lv_at hl 3 rfl) ?_
            refine ad_N hx hb (34 * i) (16 + j) dX3_find_38 ?_
            refine rd_i hx hb hK hP 1 rfl ((34 * i) + (16 + j)) (by omega) (by omega) dX3_find_39 ?_
            refine lv_iload_n hx hb dX3_find_40 rfl (lv_at hl 1 rfl) ?_
            refine lv_icmp_ne (tgt := 46) hx hb dX3_find_41 (by decide) (fun c41 => ?_) (fun c41 => ?_)
            · refine lv_iinc (v := nI (16 + j + 1)) (lv' := [(3, .int (nI (16 + j + 1))), (0, .ref (b 0)), (1, .int x), (2, .int (nI i))]) hx hb dX3_find_46 hl (k := 3) rfl (inc_N (16 + j) 1) (by decide) rfl (fun ls hl => ?_)
              refine lv_goto (tgt := 23) hx hb dX3_find_49 (by decide) ?_
              exact ih2 (j + 1) (by omega) (lt_s hmj (fun z => c41 (by rw [show 34 * i + (16 + j) = i * 34 + 16 + j by omega]; exact of_decide_eq_true z))) (by omega) _ _ _ hP hD hS (lv_sub hl [1, 2, 3, 0] rfl)
            · refine lv_iload_n hx hb dX3_find_44 rfl (lv_at hl 2 rfl) ?_
              exact ret 45 _ _ _ (nI i) () dX3_find_45 (Or.inr ⟨bI_n c5, Or.inl ⟨i, c17, rfl, anyN_T (i := j) (by omega) (decide_eq_true (by rw [show i * 34 + 16 + j = 34 * i + (16 + j) by omega]; exact c41)), hm⟩⟩) hP hD hS
  · refine lv_iconst (v := (-1)) hx hb dX3_find_8 (by decide) ?_
    exact ret 9 _ _ _ (-1) () dX3_find_9 (Or.inl ⟨bI_z c5, rfl⟩) hP hD hS
