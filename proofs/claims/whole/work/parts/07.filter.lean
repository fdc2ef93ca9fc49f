theorem p_has_T {f : Nat → Int32} {w : Int32} {i : Nat} (h : ¬ (f (p_bit w (nI i) / 32) &&& p_msk (p_bit w (nI i))) = 0) : p_has f w i = true := by simp [p_has, h]
theorem p_has_F {f : Nat → Int32} {w : Int32} {i : Nat} (h : (f (p_bit w (nI i) / 32) &&& p_msk (p_bit w (nI i))) = 0) : ¬ p_has f w i = true := by simp [p_has, h]
set_option maxHeartbeats 4000000 in
set_option maxRecDepth 100000 in
theorem c_include (l : Launch) (G : gG) (sz : Nat) (o q : Nat) (f : Nat → Int32) (x : Int32)  : MetV l yX0_include wsX0_include ({ frames := 3, cells := 0, slots := 0, locals := 65 } : Room) [.ref o, .int x] G (wF G o q f) sz (fun _ : Unit => wF G o q (p_incN f x 4)) (fun _ => True) := by
  refine ent_v _ cX0_include 4 RX0 (by decide) rfl rfl (Nat.le_of_ble_eq_true rfl) ?_
  intro p e s m args below meth c A Q ls hx hb hml hts hown hA hK hX ret hl hP hD hS
  have hl : lv_has ls 4 [(0, .ref o), (1, .int x)] := hl
  have lk9 := hts (.fieldLink RX0 9 "MinedLedger$Filter" "bits" "[I") (by decide +kernel)
  have hiX0 : ∀ w ∈ wsX00, w ∈ wsX0_include := by decide +kernel
  refine lv_iconst (v := nI 0) hx hb dX0_include_0 (by decide) ?_
  refine lv_istore_n (lv' := [(2, .int (nI 0)), (0, .ref o), (1, .int x)]) hx hb dX0_include_1 rfl hl (by decide) rfl (fun ls hl => ?_)
  suffices hloop1 : ∀ (fu1 : Nat) (i : Nat), (i ≤ 4) → 4 - i < fu1 → ∀ (H : Heap) (locs : List Loc) (ls : Array Slot), va_P G.1 vwCl (wF G o q (p_incN f x i)) H → va_D A (wF G o q (p_incN f x i)) → va_S A s.heap H locs → lv_has ls 4 [(0, .ref o), (1, .int x), (2, .int (nI i))] → W p l e ({ frames := 3, cells := 0, slots := 0, locals := 65 } : Room) s m args below meth c H locs 0 0 Q (F0 m 2 ls []) from hloop1 _ 0 (Nat.zero_le _) (Nat.lt_succ_self _) _ _ _ hP hD hS (lv_sub hl [1, 2, 0] rfl)
  clear hP hD hS hl
  intro fu1
  induction fu1 with
  | zero => intro i hi hfu; exact absurd hfu (Nat.not_lt_zero _)
  | succ fu1 ih1 =>
    intro i hi hfu1 H locs ls hP hD hS hl
    refine lv_iload_n hx hb dX0_include_2 rfl (lv_at hl 2 rfl) ?_
    refine lv_iconst (v := nI 4) hx hb dX0_include_3 (by decide) ?_
    refine cmp_ge hx hb i 4 36 (by omega) (by omega) dX0_include_4 (by decide) (fun c4 => ?_) (fun c4 => ?_)
    · have e36 : i = 4 := by omega
      subst e36
      exact ret 36 _ _ _ () dX0_include_36 (trivial) hP hD hS
    · refine lv_iload_n hx hb dX0_include_7 rfl (lv_at hl 1 rfl) ?_
      refine lv_iload_n hx hb dX0_include_8 rfl (lv_at hl 2 rfl) ?_
      refine call_Si (wr := ([(o, .inr (0, [.ref q])), (q, .inl (G.2.2.1, 32, .inl (p_incN f x i)))] : va_W)) [.int x, .int (nI i)] [] ⟨hx, hb, hml, hown, hts⟩ hK hX hA hP hD hS (c_bitOf l G _ x (nI i)) (va_cwS 2 hts gX0_include_X0_bitOf rfl rfl rfl (by decide +kernel) ⟨Nat.le_of_ble_eq_true rfl, Nat.le_of_ble_eq_true rfl⟩) [] [0, 1] rfl rfl (by decide) (by decide) (by decide) rfl hl.1 (Nat.le_of_ble_eq_true rfl) dX0_include_9 ⟨Nat.zero_le _, Nat.zero_le _⟩ (fun r_2 u H locs hw hP hD hS => ?_)
      obtain rfl := hw
      have hP : va_P G.1 vwCl (wF G o q (p_incN f x i)) H := hP
      have hD : va_D A (wF G o q (p_incN f x i)) := hD
      refine lv_istore_n (lv' := [(3, .int (nI (p_bit x (nI i)))), (0, .ref o), (1, .int x), (2, .int (nI i))]) hx hb dX0_include_12 rfl hl (by decide) rfl (fun ls hl => ?_)
      refine lv_aload_n hx hb dX0_include_13 rfl (lv_at hl 1 rfl) ?_
      refine va_get (D := G.1) (ci := 0) (v := .ref q) (C := RX0) (T := TX0) (N := 1) hx hb hts hiX0 hown hK hP 0 rfl rfl 0 (by decide) lk9 (fun _ h9 => h9) rfl dX0_include_14 ?_
      refine lv_iload_n hx hb dX0_include_17 rfl (lv_at hl 0 rfl) ?_
      refine lv_iconst (v := nI 5) hx hb dX0_include_18 (by decide) ?_
      refine lv_iushr (v := (p_ush (nI (p_bit x (nI i))) (nI 5))) hx hb dX0_include_19 rfl ?_
      refine top_i (nI ((p_bit x (nI i)) / 32)) (ush5 (p_bit_lt _ _)) ?_
      have hbl := p_bit_lt x (nI i)
      refine lv_dup2_11 hx hb dX0_include_20 rfl rfl ?_
      refine rd_i hx hb hK hP 1 rfl ((p_bit x (nI i)) / 32) (by omega) (by omega) dX0_include_21 ?_
      refine lv_iconst (v := nI 1) hx hb dX0_include_22 (by decide) ?_
      refine lv_iload_n hx hb dX0_include_23 rfl (lv_at hl 0 rfl) ?_
      refine lv_bipush (v := nI 31) hx hb dX0_include_24 (by decide) ?_
      refine lv_iand hx hb dX0_include_26 ?_
      refine lv_ishl hx hb dX0_include_27 ?_
      refine lv_ior hx hb dX0_include_28 ?_
      refine wr_i hx hb hK hP hD hS 1 rfl ((p_bit x (nI i)) / 32) (by omega) (by omega) dX0_include_29 (fun H locs hP hD hS => ?_)
      have hP : va_P G.1 vwCl (wF G o q (upd (p_incN f x i) ((p_bit x (nI i)) / 32) (((p_incN f x i) ((p_bit x (nI i)) / 32)) ||| (nI 1 <<< ((nI (p_bit x (nI i)) &&& nI 31) &&& 31))))) H := hP
      have hD : va_D A (wF G o q (upd (p_incN f x i) ((p_bit x (nI i)) / 32) (((p_incN f x i) ((p_bit x (nI i)) / 32)) ||| (nI 1 <<< ((nI (p_bit x (nI i)) &&& nI 31) &&& 31))))) := hD
      have hP : va_P G.1 vwCl (wF G o q (p_incN f x (i + 1))) H := hP
      have hD : va_D A (wF G o q (p_incN f x (i + 1))) := hD
      refine lv_iinc (v := nI (i + 1)) (lv' := [(2, .int (nI (i + 1))), (3, .int (nI (p_bit x (nI i)))), (0, .ref o), (1, .int x)]) hx hb dX0_include_30 hl (k := 3) rfl (inc_N i 1) (by decide) rfl (fun ls hl => ?_)
      refine lv_goto (tgt := 2) hx hb dX0_include_33 (by decide) ?_
      exact ih1 (i + 1) (by omega) (by omega) _ _ _ hP hD hS (lv_sub hl [2, 3, 0] rfl)
set_option maxHeartbeats 4000000 in
set_option maxRecDepth 100000 in
theorem c_mayHave (l : Launch) (G : gG) (sz : Nat) (o q : Nat) (f : Nat → Int32) (x : Int32)  : MetI l yX0_mayHave wsX0_mayHave ({ frames := 3, cells := 0, slots := 0, locals := 65 } : Room) [.ref o, .int x] G (wF G o q f) sz (fun _ : Unit => wF G o q f) (fun r _ => r = bI (allN (p_has f x) 4)) := by
  refine ent_z _ cX0_mayHave 4 RX0 (by decide) rfl rfl (Nat.le_of_ble_eq_true rfl) ?_
  intro p e s m args below meth c A Q ls hx hb hml hts hown hA hK hX ret hl hP hD hS
  have hl : lv_has ls 4 [(0, .ref o), (1, .int x)] := hl
  have lk9 := hts (.fieldLink RX0 9 "MinedLedger$Filter" "bits" "[I") (by decide +kernel)
  have hiX0 : ∀ w ∈ wsX00, w ∈ wsX0_mayHave := by decide +kernel
  refine lv_iconst (v := nI 0) hx hb dX0_mayHave_0 (by decide) ?_
  refine lv_istore_n (lv' := [(2, .int (nI 0)), (0, .ref o), (1, .int x)]) hx hb dX0_mayHave_1 rfl hl (by decide) rfl (fun ls hl => ?_)
  suffices hloop1 : ∀ (fu1 : Nat) (i : Nat), (i ≤ 4) → (∀ j, j < i → p_has f x j = true) → 4 - i < fu1 → ∀ (H : Heap) (locs : List Loc) (ls : Array Slot), va_P G.1 vwCl (wF G o q f) H → va_D A (wF G o q f) → va_S A s.heap H locs → lv_has ls 4 [(0, .ref o), (1, .int x), (2, .int (nI i))] → W p l e ({ frames := 3, cells := 0, slots := 0, locals := 65 } : Room) s m args below meth c H locs 0 0 Q (F0 m 2 ls []) from hloop1 _ 0 (Nat.zero_le _) (fun j h => absurd h (Nat.not_lt_zero j)) (Nat.lt_succ_self _) _ _ _ hP hD hS (lv_sub hl [1, 2, 0] rfl)
  clear hP hD hS hl
  intro fu1
  induction fu1 with
  | zero => intro i hi hm hfu; exact absurd hfu (Nat.not_lt_zero _)
  | succ fu1 ih1 =>
    intro i hi hm hfu1 H locs ls hP hD hS hl
    refine lv_iload_n hx hb dX0_mayHave_2 rfl (lv_at hl 2 rfl) ?_
    refine lv_iconst (v := nI 4) hx hb dX0_mayHave_3 (by decide) ?_
    refine cmp_ge hx hb i 4 39 (by omega) (by omega) dX0_mayHave_4 (by decide) (fun c4 => ?_) (fun c4 => ?_)
    · have e39 : i = 4 := by omega
      subst e39
      refine lv_iconst (v := nI 1) hx hb dX0_mayHave_39 (by decide) ?_
      exact ret 40 _ _ _ (nI 1) () dX0_mayHave_40 (by first | exact Or.inl rfl | exact Or.inr rfl) (al_T hm) hP hD hS
    · refine lv_iload_n hx hb dX0_mayHave_7 rfl (lv_at hl 1 rfl) ?_
      refine lv_iload_n hx hb dX0_mayHave_8 rfl (lv_at hl 2 rfl) ?_
      refine call_Si (wr := ([(o, .inr (0, [.ref q])), (q, .inl (G.2.2.1, 32, .inl f))] : va_W)) [.int x, .int (nI i)] [] ⟨hx, hb, hml, hown, hts⟩ hK hX hA hP hD hS (c_bitOf l G _ x (nI i)) (va_cwS 2 hts gX0_mayHave_X0_bitOf rfl rfl rfl (by decide +kernel) ⟨Nat.le_of_ble_eq_true rfl, Nat.le_of_ble_eq_true rfl⟩) [] [0, 1] rfl rfl (by decide) (by decide) (by decide) rfl hl.1 (Nat.le_of_ble_eq_true rfl) dX0_mayHave_9 ⟨Nat.zero_le _, Nat.zero_le _⟩ (fun r_2 u H locs hw hP hD hS => ?_)
      obtain rfl := hw
      have hP : va_P G.1 vwCl (wF G o q f) H := hP
      have hD : va_D A (wF G o q f) := hD
      refine lv_istore_n (lv' := [(3, .int (nI (p_bit x (nI i)))), (0, .ref o), (1, .int x), (2, .int (nI i))]) hx hb dX0_mayHave_12 rfl hl (by decide) rfl (fun ls hl => ?_)
      refine lv_aload_n hx hb dX0_mayHave_13 rfl (lv_at hl 1 rfl) ?_
      refine va_get (D := G.1) (ci := 0) (v := .ref q) (C := RX0) (T := TX0) (N := 1) hx hb hts hiX0 hown hK hP 0 rfl rfl 0 (by decide) lk9 (fun _ h9 => h9) rfl dX0_mayHave_14 ?_
      refine lv_iload_n hx hb dX0_mayHave_17 rfl (lv_at hl 0 rfl) ?_
      refine lv_iconst (v := nI 5) hx hb dX0_mayHave_18 (by decide) ?_
      refine lv_iushr (v := (p_ush (nI (p_bit x (nI i))) (nI 5))) hx hb dX0_mayHave_19 rfl ?_
      refine top_i (nI ((p_bit x (nI i)) / 32)) (ush5 (p_bit_lt _ _)) ?_
      have hbl := p_bit_lt x (nI i)
      refine rd_i hx hb hK hP 1 rfl ((p_bit x (nI i)) / 32) (by omega) (by omega) dX0_mayHave_20 ?_
      refine lv_iconst (v := nI 1) hx hb dX0_mayHave_21 (by decide) ?_
      refine lv_iload_n hx hb dX0_mayHave_22 rfl (lv_at hl 0 rfl) ?_
      refine lv_bipush (v := nI 31) hx hb dX0_mayHave_23 (by decide) ?_
      refine lv_iand hx hb dX0_mayHave_25 ?_
      refine lv_ishl hx hb dX0_mayHave_26 ?_
      refine lv_iand hx hb dX0_mayHave_27 ?_
      refine lv_if_ne (tgt := 33) hx hb dX0_mayHave_28 (by decide) (fun c28 => ?_) (fun c28 => ?_)
      · refine lv_iinc (v := nI (i + 1)) (lv' := [(2, .int (nI (i + 1))), (3, .int (nI (p_bit x (nI i)))), (0, .ref o), (1, .int x)]) hx hb dX0_mayHave_33 hl (k := 3) rfl (inc_N i 1) (by decide) rfl (fun ls hl => ?_)
        refine lv_goto (tgt := 2) hx hb dX0_mayHave_36 (by decide) ?_
        exact ih1 (i + 1) (by omega) (lt_s hm (p_has_T c28)) (by omega) _ _ _ hP hD hS (lv_sub hl [2, 3, 0] rfl)
      · refine lv_iconst (v := nI 0) hx hb dX0_mayHave_31 (by decide) ?_
        exact ret 32 _ _ _ (nI 0) () dX0_mayHave_32 (by first | exact Or.inl rfl | exact Or.inr rfl) (al_F (i := i) (by omega) (p_has_F c28)) hP hD hS
set_option maxHeartbeats 4000000 in
set_option maxRecDepth 100000 in
theorem c_clear (l : Launch) (G : gG) (sz : Nat) (o q : Nat) (f : Nat → Int32)  : MetV l yX0_clear wsX0_clear ({ frames := 1, cells := 0, slots := 0, locals := 23 } : Room) [.ref o] G (wF G o q f) sz (fun _ : Unit => wF G o q (p_fill f 0 32 (nI 0))) (fun _ => True) := by
  refine ent_v _ cX0_clear 1 RX0 (by decide) rfl rfl (Nat.le_of_ble_eq_true rfl) ?_
  intro p e s m args below meth c A Q ls hx hb hml hts hown hA hK hX ret hl hP hD hS
  have hl : lv_has ls 1 [(0, .ref o)] := hl
  have lk9 := hts (.fieldLink RX0 9 "MinedLedger$Filter" "bits" "[I") (by decide +kernel)
  have hiX0 : ∀ w ∈ wsX00, w ∈ wsX0_clear := by decide +kernel
  refine lv_aload_n hx hb dX0_clear_0 rfl (lv_at hl 0 rfl) ?_
  refine va_get (D := G.1) (ci := 0) (v := .ref q) (C := RX0) (T := TX0) (N := 1) hx hb hts hiX0 hown hK hP 0 rfl rfl 0 (by decide) lk9 (fun _ h9 => h9) rfl dX0_clear_1 ?_
  refine lv_iconst (v := nI 0) hx hb dX0_clear_4 (by decide) ?_
  refine call_Sv (wr := ([(o, .inr (0, [.ref q]))] : va_W)) [.ref q, .int (nI 0)] [] ⟨hx, hb, hml, hown, hts⟩ hK hX hA hP hD hS (c_fill2 l G _ q 32 f (nI 0) (by omega)) (va_cwS 2 hts gX0_clear_J7_fill_53178 rfl rfl rfl (by decide +kernel) ⟨Nat.le_of_ble_eq_true rfl, Nat.le_of_ble_eq_true rfl⟩) [1] [0] rfl rfl (by decide) (by decide) (by decide) rfl hl.1 (Nat.le_of_ble_eq_true rfl) dX0_clear_5 ⟨Nat.zero_le _, Nat.zero_le _⟩ (fun u H locs hw hP hD hS => ?_)
  have hP : va_P G.1 vwCl (wF G o q (p_fill f 0 32 (nI 0))) H := hP
  have hD : va_D A (wF G o q (p_fill f 0 32 (nI 0))) := hD
  exact ret 8 _ _ _ () dX0_clear_8 (trivial) hP hD hS
abbrev wSp (G : gG) (o x y z : Nat) (f : Nat → Int32) : va_W := [(o, .inr (1, [.ref x, .ref y, .ref z])), (z, .inl (G.2.2.1, 64, .inl f))]
set_option maxHeartbeats 4000000 in
set_option maxRecDepth 100000 in
theorem c_spread (l : Launch) (G : gG) (sz : Nat) (o x y z : Nat) (f : Nat → Int32)  : MetV l yX1_spread wsX1_spread ({ frames := 1, cells := 0, slots := 0, locals := 21 } : Room) [.ref o] G (wSp G o x y z f) sz (fun _ : Unit => wSp G o x y z (p_w f)) (fun _ => True) := by
  refine ent_v _ cX1_spread 4 RX1 (by decide) rfl rfl (Nat.le_of_ble_eq_true rfl) ?_
  intro p e s m args below meth c A Q ls hx hb hml hts hown hA hK hX ret hl hP hD hS
  have hl : lv_has ls 4 [(0, .ref o)] := hl
  have lk18 := hts (.fieldLink RX1 18 "MinedLedger$Hasher" "w" "[I") (by decide +kernel)
  have hiX1 : ∀ w ∈ wsX10, w ∈ wsX1_spread := by decide +kernel
  refine lv_bipush (v := nI 16) hx hb dX1_spread_0 (by decide) ?_
  refine lv_istore_n (lv' := [(1, .int (nI 16)), (0, .ref o)]) hx hb dX1_spread_2 rfl hl (by decide) rfl (fun ls hl => ?_)
  suffices hloop1 : ∀ (fu1 : Nat) (k : Nat), (k ≤ 48) → 48 - k < fu1 → ∀ (H : Heap) (locs : List Loc) (ls : Array Slot), va_P G.1 vwCl (wSp G o x y z (p_sprN f k)) H → va_D A (wSp G o x y z (p_sprN f k)) → va_S A s.heap H locs → lv_has ls 4 [(0, .ref o), (1, .int (nI (16 + k)))] → W p l e ({ frames := 1, cells := 0, slots := 0, locals := 21 } : Room) s m args below meth c H locs 0 0 Q (F0 m 3 ls []) from hloop1 _ 0 (Nat.zero_le _) (Nat.lt_succ_self _) _ _ _ hP hD hS (lv_sub hl [1, 0] rfl)
  clear hP hD hS hl
  intro fu1
  induction fu1 with
  | zero => intro k hk hfu; exact absurd hfu (Nat.not_lt_zero _)
  | succ fu1 ih1 =>
    intro k hk hfu1 H locs ls hP hD hS hl
    refine lv_iload_n hx hb dX1_spread_3 rfl (lv_at hl 1 rfl) ?_
    refine lv_bipush (v := nI 64) hx hb dX1_spread_4 (by decide) ?_
    refine cmp_ge hx hb (16 + k) 64 96 (by omega) (by omega) dX1_spread_6 (by decide) (fun c6 => ?_) (fun c6 => ?_)
    · have e96 : k = 48 := by omega
      subst e96
      exact ret 96 _ _ _ () dX1_spread_96 (trivial) hP hD hS
    · refine lv_aload_n hx hb dX1_spread_9 rfl (lv_at hl 0 rfl) ?_
      refine va_get (D := G.1) (ci := 1) (v := .ref z) (C := RX1) (T := TX1) (N := 3) hx hb hts hiX1 hown hK hP 0 rfl rfl 2 (by decide) lk18 (fun _ h9 => h9) rfl dX1_spread_10 ?_
      refine lv_iload_n hx hb dX1_spread_13 rfl (lv_at hl 1 rfl) ?_
      refine lv_bipush (v := nI 15) hx hb dX1_spread_14 (by decide) ?_
      refine su_N hx hb (16 + k) 15 (by omega) dX1_spread_16 ?_
      refine rd_i hx hb hK hP 1 rfl ((16 + k) - 15) (by omega) (by omega) dX1_spread_17 ?_
      refine lv_istore_n (lv' := [(2, .int ((p_sprN f k) ((16 + k) - 15))), (0, .ref o), (1, .int (nI (16 + k)))]) hx hb dX1_spread_18 rfl hl (by decide) rfl (fun ls hl => ?_)
      refine lv_aload_n hx hb dX1_spread_19 rfl (lv_at hl 1 rfl) ?_
      refine va_get (D := G.1) (ci := 1) (v := .ref z) (C := RX1) (T := TX1) (N := 3) hx hb hts hiX1 hown hK hP 0 rfl rfl 2 (by decide) lk18 (fun _ h9 => h9) rfl dX1_spread_20 ?_
      refine lv_iload_n hx hb dX1_spread_23 rfl (lv_at hl 2 rfl) ?_
      refine lv_iconst (v := nI 2) hx hb dX1_spread_24 (by decide) ?_
      refine su_N hx hb (16 + k) 2 (by omega) dX1_spread_25 ?_
      refine rd_i hx hb hK hP 1 rfl ((16 + k) - 2) (by omega) (by omega) dX1_spread_26 ?_
      refine lv_istore_n (lv' := [(3, .int ((p_sprN f k) ((16 + k) - 2))), (2, .int ((p_sprN f k) ((16 + k) - 15))), (0, .ref o), (1, .int (nI (16 + k)))]) hx hb dX1_spread_27 rfl hl (by decide) rfl (fun ls hl => ?_)
      refine lv_aload_n hx hb dX1_spread_28 rfl (lv_at hl 2 rfl) ?_
      refine va_get (D := G.1) (ci := 1) (v := .ref z) (C := RX1) (T := TX1) (N := 3) hx hb hts hiX1 hown hK hP 0 rfl rfl 2 (by decide) lk18 (fun _ h9 => h9) rfl dX1_spread_29 ?_
      refine lv_iload_n hx hb dX1_spread_32 rfl (lv_at hl 3 rfl) ?_
      refine lv_aload_n hx hb dX1_spread_33 rfl (lv_at hl 2 rfl) ?_
      refine va_get (D := G.1) (ci := 1) (v := .ref z) (C := RX1) (T := TX1) (N := 3) hx hb hts hiX1 hown hK hP 0 rfl rfl 2 (by decide) lk18 (fun _ h9 => h9) rfl dX1_spread_34 ?_
      refine lv_iload_n hx hb dX1_spread_37 rfl (lv_at hl 3 rfl) ?_
      refine lv_bipush (v := nI 16) hx hb dX1_spread_38 (by decide) ?_
      refine su_N hx hb (16 + k) 16 (by omega) dX1_spread_40 ?_
      refine rd_i hx hb hK hP 1 rfl ((16 + k) - 16) (by omega) (by omega) dX1_spread_41 ?_
      refine lv_iload_n hx hb dX1_spread_42 rfl (lv_at hl 1 rfl) ?_
      refine lv_bipush (v := nI 7) hx hb dX1_spread_43 (by decide) ?_
      refine call_Ni (wr := ([(o, .inr (1, [.ref x, .ref y, .ref z])), (z, .inl (G.2.2.1, 64, .inl (p_sprN f k)))] : va_W)) [.int ((p_sprN f k) ((16 + k) - 15)), .int (nI 7)] [.int ((p_sprN f k) ((16 + k) - 16)), .int (nI (16 + k)), .ref z] ⟨hx, hb, hml, hown, hts⟩ hK hX hA hP hD hS (c_right l G _ ((p_sprN f k) ((16 + k) - 15)) (nI 7)) ⟨va_cnB 2 hts gX1_spread_X2_right_n57 rfl rfl rfl hX.2.2.2.2.1 (hts (.initialized RX2) (by decide +kernel)) (by decide +kernel) ⟨Nat.le_of_ble_eq_true rfl, Nat.le_of_ble_eq_true rfl⟩, hts (.static yX2_right) (by decide +kernel), trivial⟩ [] [0, 1] rfl rfl (by decide) (by decide) (by decide) rfl hl.1 (Nat.le_of_ble_eq_true rfl) dX1_spread_45 ⟨Nat.zero_le _, Nat.zero_le _⟩ (fun r_2 u H locs hw hP hD hS => ?_)
      obtain rfl := hw
      have hP : va_P G.1 vwCl (wSp G o x y z (p_sprN f k)) H := hP
      have hD : va_D A (wSp G o x y z (p_sprN f k)) := hD
      refine lv_iload_n hx hb dX1_spread_48 rfl (lv_at hl 1 rfl) ?_
      refine lv_bipush (v := nI 18) hx hb dX1_spread_49 (by decide) ?_
      refine call_Ni (wr := ([(o, .inr (1, [.ref x, .ref y, .ref z])), (z, .inl (G.2.2.1, 64, .inl (p_sprN f k)))] : va_W)) [.int ((p_sprN f k) ((16 + k) - 15)), .int (nI 18)] [.int (p_rot ((p_sprN f k) ((16 + k) - 15)) (nI 7)), .int ((p_sprN f k) ((16 + k) - 16)), .int (nI (16 + k)), .ref z] ⟨hx, hb, hml, hown, hts⟩ hK hX hA hP hD hS (c_right l G _ ((p_sprN f k) ((16 + k) - 15)) (nI 18)) ⟨va_cnB 2 hts gX1_spread_X2_right_n57 rfl rfl rfl hX.2.2.2.2.1 (hts (.initialized RX2) (by decide +kernel)) (by decide +kernel) ⟨Nat.le_of_ble_eq_true rfl, Nat.le_of_ble_eq_true rfl⟩, hts (.static yX2_right) (by decide +kernel), trivial⟩ [] [0, 1] rfl rfl (by decide) (by decide) (by decide) rfl hl.1 (Nat.le_of_ble_eq_true rfl) dX1_spread_51 ⟨Nat.zero_le _, Nat.zero_le _⟩ (fun r_3 u H locs hw hP hD hS => ?_)
      obtain rfl := hw
      have hP : va_P G.1 vwCl (wSp G o x y z (p_sprN f k)) H := hP
      have hD : va_D A (wSp G o x y z (p_sprN f k)) := hD
      refine lv_ixor hx hb dX1_spread_54 ?_
      refine lv_iload_n hx hb dX1_spread_55 rfl (lv_at hl 1 rfl) ?_
      refine lv_iconst (v := nI 3) hx hb dX1_spread_56 (by decide) ?_
      refine lv_iushr (v := (p_ush ((p_sprN f k) ((16 + k) - 15)) (nI 3))) hx hb dX1_spread_57 rfl ?_
      refine lv_ixor hx hb dX1_spread_58 ?_
      refine lv_iadd hx hb dX1_spread_59 ?_
      refine lv_aload_n hx hb dX1_spread_60 rfl (lv_at hl 2 rfl) ?_
      refine va_get (D := G.1) (ci := 1) (v := .ref z) (C := RX1) (T := TX1) (N := 3) hx hb hts hiX1 hown hK hP 0 rfl rfl 2 (by decide) lk18 (fun _ h9 => h9) rfl dX1_spread_61 ?_
      refine lv_iload_n hx hb dX1_spread_64 rfl (lv_at hl 3 rfl) ?_
      refine lv_bipush (v := nI 7) hx hb dX1_spread_65 (by decide) ?_
      refine su_N hx hb (16 + k) 7 (by omega) dX1_spread_67 ?_
      refine rd_i hx hb hK hP 1 rfl ((16 + k) - 7) (by omega) (by omega) dX1_spread_68 ?_
      refine lv_iadd hx hb dX1_spread_69 ?_
      refine lv_iload_n hx hb dX1_spread_70 rfl (lv_at hl 0 rfl) ?_
      refine lv_bipush (v := nI 17) hx hb dX1_spread_71 (by decide) ?_
      refine call_Ni (wr := ([(o, .inr (1, [.ref x, .ref y, .ref z])), (z, .inl (G.2.2.1, 64, .inl (p_sprN f k)))] : va_W)) [.int ((p_sprN f k) ((16 + k) - 2)), .int (nI 17)] [.int ((((p_sprN f k) ((16 + k) - 16)) + (((p_rot ((p_sprN f k) ((16 + k) - 15)) (nI 7)) ^^^ (p_rot ((p_sprN f k) ((16 + k) - 15)) (nI 18))) ^^^ (p_ush ((p_sprN f k) ((16 + k) - 15)) (nI 3)))) + ((p_sprN f k) ((16 + k) - 7))), .int (nI (16 + k)), .ref z] ⟨hx, hb, hml, hown, hts⟩ hK hX hA hP hD hS (c_right l G _ ((p_sprN f k) ((16 + k) - 2)) (nI 17)) ⟨va_cnB 2 hts gX1_spread_X2_right_n57 rfl rfl rfl hX.2.2.2.2.1 (hts (.initialized RX2) (by decide +kernel)) (by decide +kernel) ⟨Nat.le_of_ble_eq_true rfl, Nat.le_of_ble_eq_true rfl⟩, hts (.static yX2_right) (by decide +kernel), trivial⟩ [] [0, 1] rfl rfl (by decide) (by decide) (by decide) rfl hl.1 (Nat.le_of_ble_eq_true rfl) dX1_spread_73 ⟨Nat.zero_le _, Nat.zero_le _⟩ (fun r_4 u H locs hw hP hD hS => ?_)
      obtain rfl := hw
      have hP : va_P G.1 vwCl (wSp G o x y z (p_sprN f k)) H := hP
      have hD : va_D A (wSp G o x y z (p_sprN f k)) := hD
      refine lv_iload_n hx hb dX1_spread_76 rfl (lv_at hl 0 rfl) ?_
      refine lv_bipush (v := nI 19) hx hb dX1_spread_77 (by decide) ?_
      refine call_Ni (wr := ([(o, .inr (1, [.ref x, .ref y, .ref z])), (z, .inl (G.2.2.1, 64, .inl (p_sprN f k)))] : va_W)) [.int ((p_sprN f k) ((16 + k) - 2)), .int (nI 19)] [.int (p_rot ((p_sprN f k) ((16 + k) - 2)) (nI 17)), .int ((((p_sprN f k) ((16 + k) - 16)) + (((p_rot ((p_sprN f k) ((16 + k) - 15)) (nI 7)) ^^^ (p_rot ((p_sprN f k) ((16 + k) - 15)) (nI 18))) ^^^ (p_ush ((p_sprN f k) ((16 + k) - 15)) (nI 3)))) + ((p_sprN f k) ((16 + k) - 7))), .int (nI (16 + k)), .ref z] ⟨hx, hb, hml, hown, hts⟩ hK hX hA hP hD hS (c_right l G _ ((p_sprN f k) ((16 + k) - 2)) (nI 19)) ⟨va_cnB 2 hts gX1_spread_X2_right_n57 rfl rfl rfl hX.2.2.2.2.1 (hts (.initialized RX2) (by decide +kernel)) (by decide +kernel) ⟨Nat.le_of_ble_eq_true rfl, Nat.le_of_ble_eq_true rfl⟩, hts (.static yX2_right) (by decide +kernel), trivial⟩ [] [0, 1] rfl rfl (by decide) (by decide) (by decide) rfl hl.1 (Nat.le_of_ble_eq_true rfl) dX1_spread_79 ⟨Nat.zero_le _, Nat.zero_le _⟩ (fun r_5 u H locs hw hP hD hS => ?_)
      obtain rfl := hw
      have hP : va_P G.1 vwCl (wSp G o x y z (p_sprN f k)) H := hP
      have hD : va_D A (wSp G o x y z (p_sprN f k)) := hD
      refine lv_ixor hx hb dX1_spread_82 ?_
      refine lv_iload_n hx hb dX1_spread_83 rfl (lv_at hl 0 rfl) ?_
      refine lv_bipush (v := nI 10) hx hb dX1_spread_84 (by decide) ?_
      refine lv_iushr (v := (p_ush ((p_sprN f k) ((16 + k) - 2)) (nI 10))) hx hb dX1_spread_86 rfl ?_
      refine lv_ixor hx hb dX1_spread_87 ?_
      refine lv_iadd hx hb dX1_spread_88 ?_
      refine wr_i hx hb hK hP hD hS 1 rfl (16 + k) (by omega) (by omega) dX1_spread_89 (fun H locs hP hD hS => ?_)
      have hP : va_P G.1 vwCl (wSp G o x y z (upd (p_sprN f k) (16 + k) (((((p_sprN f k) ((16 + k) - 16)) + (((p_rot ((p_sprN f k) ((16 + k) - 15)) (nI 7)) ^^^ (p_rot ((p_sprN f k) ((16 + k) - 15)) (nI 18))) ^^^ (p_ush ((p_sprN f k) ((16 + k) - 15)) (nI 3)))) + ((p_sprN f k) ((16 + k) - 7))) + (((p_rot ((p_sprN f k) ((16 + k) - 2)) (nI 17)) ^^^ (p_rot ((p_sprN f k) ((16 + k) - 2)) (nI 19))) ^^^ (p_ush ((p_sprN f k) ((16 + k) - 2)) (nI 10)))))) H := hP
      have hD : va_D A (wSp G o x y z (upd (p_sprN f k) (16 + k) (((((p_sprN f k) ((16 + k) - 16)) + (((p_rot ((p_sprN f k) ((16 + k) - 15)) (nI 7)) ^^^ (p_rot ((p_sprN f k) ((16 + k) - 15)) (nI 18))) ^^^ (p_ush ((p_sprN f k) ((16 + k) - 15)) (nI 3)))) + ((p_sprN f k) ((16 + k) - 7))) + (((p_rot ((p_sprN f k) ((16 + k) - 2)) (nI 17)) ^^^ (p_rot ((p_sprN f k) ((16 + k) - 2)) (nI 19))) ^^^ (p_ush ((p_sprN f k) ((16 + k) - 2)) (nI 10)))))) := hD
      have hP : va_P G.1 vwCl (wSp G o x y z (p_sprN f (k + 1))) H := hP
      have hD : va_D A (wSp G o x y z (p_sprN f (k + 1))) := hD
      refine lv_iinc (v := nI (16 + k + 1)) (lv' := [(1, .int (nI (16 + k + 1))), (3, .int ((p_sprN f k) ((16 + k) - 2))), (2, .int ((p_sprN f k) ((16 + k) - 15))), (0, .ref o)]) hx hb dX1_spread_90 hl (k := 3) rfl (inc_N (16 + k) 1) (by decide) rfl (fun ls hl => ?_)
      refine lv_goto (tgt := 3) hx hb dX1_spread_93 (by decide) ?_
      exact ih1 (k + 1) (by omega) (by omega) _ _ _ hP hD hS (lv_sub hl [3, 0] rfl)
