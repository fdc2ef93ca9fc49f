/-! worlds of one array -/
abbrev wA (G : gG) (q n : Nat) (f : Nat → Int32) : va_W := [(q, .inl (G.2.2.1, n, .inl f))]
def p_fill (f : Nat → Int32) (a b : Nat) (v : Int32) : Nat → Int32 := fun j => if a ≤ j ∧ j < b then v else f j
theorem p_fill_0 (f : Nat → Int32) (a : Nat) (v : Int32) : p_fill f a a v = f := by funext j; simp only [p_fill]; rw [if_neg (by omega)]
theorem p_fill_s {f : Nat → Int32} {a b : Nat} {v : Int32} (h : a ≤ b) : upd (p_fill f a b v) b v = p_fill f a (b + 1) v := by
  funext j
  by_cases q : j = b
  · subst q; rw [pk_us]; simp only [p_fill]; rw [if_pos (by omega)]
  · rw [pk_un q]; simp only [p_fill]; by_cases z : a ≤ j ∧ j < b
    · rw [if_pos z, if_pos (by omega)]
    · rw [if_neg z, if_neg (by omega)]
set_option maxHeartbeats 4000000 in
set_option maxRecDepth 100000 in
theorem c_right (l : Launch) (G : gG) (sz : Nat) (x k : Int32)  : MetI l yX2_right wsX2_right ({ frames := 0, cells := 0, slots := 0, locals := 0 } : Room) [.int x, .int k] G (([] : va_W)) sz (fun _ : Unit => []) (fun r _ => r = p_rot x k) := by
  refine ent_i _ cX2_right 2 RX2 (by decide) rfl rfl (Nat.le_of_ble_eq_true rfl) ?_
  intro p e s m args below meth c A Q ls hx hb hml hts hown hA hK hX ret hl hP hD hS
  have hl : lv_has ls 2 [(0, .int x), (1, .int k)] := hl
  refine lv_iload_n hx hb dX2_right_0 rfl (lv_at hl 0 rfl) ?_
  refine lv_iload_n hx hb dX2_right_1 rfl (lv_at hl 1 rfl) ?_
  refine lv_iushr (v := (p_ush x k)) hx hb dX2_right_2 rfl ?_
  refine lv_iload_n hx hb dX2_right_3 rfl (lv_at hl 0 rfl) ?_
  refine lv_bipush (v := nI 32) hx hb dX2_right_4 (by decide) ?_
  refine lv_iload_n hx hb dX2_right_6 rfl (lv_at hl 1 rfl) ?_
  refine lv_isub hx hb dX2_right_7 ?_
  refine lv_ishl hx hb dX2_right_8 ?_
  refine lv_ior hx hb dX2_right_9 ?_
  exact ret 10 _ _ _ ((p_ush x k) ||| (x <<< ((nI 32 - k) &&& 31))) () dX2_right_10 (rfl) hP hD hS
set_option maxHeartbeats 4000000 in
set_option maxRecDepth 100000 in
theorem c_rangeCheck (l : Launch) (G : gG) (sz : Nat) (n a b : Nat) (h1 : a ≤ b) (h2 : b ≤ n) (h3 : n ≤ 65536) : MetV l yJ7_rangeCheck_23922 wsJ7_rangeCheck_23922 ({ frames := 0, cells := 0, slots := 0, locals := 0 } : Room) [.int (nI n), .int (nI a), .int (nI b)] G (([] : va_W)) sz (fun _ : Unit => []) (fun _ => True) := by
  refine ent_v _ cJ7_rangeCheck_23922 3 RJ7 (by decide) rfl rfl (Nat.le_of_ble_eq_true rfl) ?_
  intro p e s m args below meth c A Q ls hx hb hml hts hown hA hK hX ret hl hP hD hS
  have hl : lv_has ls 3 [(0, .int (nI n)), (1, .int (nI a)), (2, .int (nI b))] := hl
  refine lv_iload_n hx hb dJ7_rangeCheck_23922_0 rfl (lv_at hl 1 rfl) ?_
  refine lv_iload_n hx hb dJ7_rangeCheck_23922_1 rfl (lv_at hl 2 rfl) ?_
  refine cmp_le hx hb a b 46 (by omega) (by omega) dJ7_rangeCheck_23922_2 (by decide) (fun c2 => ?_) (fun c2 => ?_)
  · refine lv_iload_n hx hb dJ7_rangeCheck_23922_46 rfl (lv_at hl 1 rfl) ?_
    refine if0_ge hx hb a 59 (by omega) dJ7_rangeCheck_23922_47 (by decide) ?_
    refine lv_iload_n hx hb dJ7_rangeCheck_23922_59 rfl (lv_at hl 2 rfl) ?_
    refine lv_iload_n hx hb dJ7_rangeCheck_23922_60 rfl (lv_at hl 0 rfl) ?_
    refine cmp_le hx hb b n 73 (by omega) (by omega) dJ7_rangeCheck_23922_61 (by decide) (fun c61 => ?_) (fun c61 => ?_)
    · exact ret 73 _ _ _ () dJ7_rangeCheck_23922_73 (trivial) hP hD hS
    · exfalso; omega
  · exfalso; omega
set_option maxHeartbeats 4000000 in
set_option maxRecDepth 100000 in
theorem c_fill4 (l : Launch) (G : gG) (sz : Nat) (q n a b : Nat) (f : Nat → Int32) (v : Int32) (h1 : a ≤ b) (h2 : b ≤ n) (h3 : n ≤ 65536) : MetV l yJ7_fill_fda19 wsJ7_fill_fda19 ({ frames := 1, cells := 0, slots := 0, locals := 22 } : Room) [.ref q, .int (nI a), .int (nI b), .int v] G (wA G q n f) sz (fun _ : Unit => wA G q n (p_fill f a b v)) (fun _ => True) := by
  refine ent_v _ cJ7_fill_fda19 5 RJ7 (by decide) rfl rfl (Nat.le_of_ble_eq_true rfl) ?_
  intro p e s m args below meth c A Q ls hx hb hml hts hown hA hK hX ret hl hP hD hS
  have hl : lv_has ls 5 [(0, .ref q), (1, .int (nI a)), (2, .int (nI b)), (3, .int v)] := hl
  refine lv_aload_n hx hb dJ7_fill_fda19_0 rfl (lv_at hl 0 rfl) ?_
  refine va_alen hx hb hK hP 0 0 rfl rfl (v := nI n) rfl dJ7_fill_fda19_1 ?_
  refine lv_iload_n hx hb dJ7_fill_fda19_2 rfl (lv_at hl 1 rfl) ?_
  refine lv_iload_n hx hb dJ7_fill_fda19_3 rfl (lv_at hl 2 rfl) ?_
  refine call_Sv (wr := ([(q, .inl (G.2.2.1, n, .inl f))] : va_W)) [.int (nI n), .int (nI a), .int (nI b)] [] ⟨hx, hb, hml, hown, hts⟩ hK hX hA hP hD hS (c_rangeCheck l G _ n a b (by omega) (by omega) (by omega)) (va_cwS 3 hts gJ7_fill_fda19_J7_rangeCheck_23922 rfl rfl rfl (by decide +kernel) ⟨Nat.le_of_ble_eq_true rfl, Nat.le_of_ble_eq_true rfl⟩) [] [0] rfl rfl (by decide) (by decide) (by decide) rfl hl.1 (Nat.le_of_ble_eq_true rfl) dJ7_fill_fda19_4 ⟨Nat.zero_le _, Nat.zero_le _⟩ (fun u H locs hw hP hD hS => ?_)
  have hP : va_P G.1 vwCl (wA G q n f) H := hP
  have hD : va_D A (wA G q n f) := hD
  refine lv_iload_n hx hb dJ7_fill_fda19_7 rfl (lv_at hl 1 rfl) ?_
  have hP : va_P G.1 vwCl (wA G q n (p_fill f a a v)) H := by rw [p_fill_0]; exact hP
  have hD : va_D A (wA G q n (p_fill f a a v)) := by rw [p_fill_0]; exact hD
  refine lv_istore (lv' := [(4, .int (nI a)), (0, .ref q), (1, .int (nI a)), (2, .int (nI b)), (3, .int v)]) hx hb dJ7_fill_fda19_8 hl (by decide) rfl (fun ls hl => ?_)
  suffices hloop1 : ∀ (fu1 : Nat) (i : Nat), (a ≤ i) → (i ≤ b) → b - i < fu1 → ∀ (H : Heap) (locs : List Loc) (ls : Array Slot), va_P G.1 vwCl (wA G q n (p_fill f a i v)) H → va_D A (wA G q n (p_fill f a i v)) → va_S A s.heap H locs → lv_has ls 5 [(0, .ref q), (1, .int (nI a)), (2, .int (nI b)), (3, .int v), (4, .int (nI i))] → W p l e ({ frames := 1, cells := 0, slots := 0, locals := 22 } : Room) s m args below meth c H locs 0 0 Q (F0 m 10 ls []) from hloop1 _ a (Nat.le_refl _) h1 (Nat.lt_succ_self _) _ _ _ hP hD hS (lv_sub hl [1, 2, 3, 4, 0] rfl)
  clear hP hD hS hl
  intro fu1
  induction fu1 with
  | zero => intro i hi1 hi2 hfu; exact absurd hfu (Nat.not_lt_zero _)
  | succ fu1 ih1 =>
    intro i hi1 hi2 hfu1 H locs ls hP hD hS hl
    refine lv_iload hx hb dJ7_fill_fda19_10 (lv_at hl 4 rfl) ?_
    refine lv_iload_n hx hb dJ7_fill_fda19_12 rfl (lv_at hl 2 rfl) ?_
    refine cmp_ge hx hb i b 27 (by omega) (by omega) dJ7_fill_fda19_13 (by decide) (fun c13 => ?_) (fun c13 => ?_)
    · have e27 : i = b := by omega
      subst e27
      exact ret 27 _ _ _ () dJ7_fill_fda19_27 (trivial) hP hD hS
    · refine lv_aload_n hx hb dJ7_fill_fda19_16 rfl (lv_at hl 0 rfl) ?_
      refine lv_iload hx hb dJ7_fill_fda19_17 (lv_at hl 4 rfl) ?_
      refine lv_iload_n hx hb dJ7_fill_fda19_19 rfl (lv_at hl 3 rfl) ?_
      refine wr_i hx hb hK hP hD hS 0 rfl i (by omega) (by omega) dJ7_fill_fda19_20 (fun H locs hP hD hS => ?_)
      have hP : va_P G.1 vwCl (wA G q n (upd (p_fill f a i v) i v)) H := hP
      have hD : va_D A (wA G q n (upd (p_fill f a i v) i v)) := hD
      rw [p_fill_s hi1] at hP hD
      refine lv_iinc (v := nI (i + 1)) (lv' := [(4, .int (nI (i + 1))), (0, .ref q), (1, .int (nI a)), (2, .int (nI b)), (3, .int v)]) hx hb dJ7_fill_fda19_21 hl (k := 4) rfl (inc_N i 1) (by decide) rfl (fun ls hl => ?_)
      refine lv_goto (tgt := 10) hx hb dJ7_fill_fda19_24 (by decide) ?_
      exact ih1 (i + 1) (by omega) (by omega) (by omega) _ _ _ hP hD hS (lv_sub hl [1, 2, 3, 4, 0] rfl)
set_option maxHeartbeats 4000000 in
set_option maxRecDepth 100000 in
theorem c_fill2 (l : Launch) (G : gG) (sz : Nat) (q n : Nat) (f : Nat → Int32) (v : Int32) (h3 : n ≤ 65536) : MetV l yJ7_fill_53178 wsJ7_fill_53178 ({ frames := 0, cells := 0, slots := 0, locals := 0 } : Room) [.ref q, .int v] G (wA G q n f) sz (fun _ : Unit => wA G q n (p_fill f 0 n v)) (fun _ => True) := by
  refine ent_v _ cJ7_fill_53178 4 RJ7 (by decide) rfl rfl (Nat.le_of_ble_eq_true rfl) ?_
  intro p e s m args below meth c A Q ls hx hb hml hts hown hA hK hX ret hl hP hD hS
  have hl : lv_has ls 4 [(0, .ref q), (1, .int v)] := hl
  refine lv_iconst (v := nI 0) hx hb dJ7_fill_53178_0 (by decide) ?_
  refine lv_istore_n (lv' := [(2, .int (nI 0)), (0, .ref q), (1, .int v)]) hx hb dJ7_fill_53178_1 rfl hl (by decide) rfl (fun ls hl => ?_)
  refine lv_aload_n hx hb dJ7_fill_53178_2 rfl (lv_at hl 1 rfl) ?_
  refine va_alen hx hb hK hP 0 0 rfl rfl (v := nI n) rfl dJ7_fill_53178_3 ?_
  have hP : va_P G.1 vwCl (wA G q n (p_fill f 0 0 v)) s.heap := by rw [p_fill_0]; exact hP
  have hD : va_D A (wA G q n (p_fill f 0 0 v)) := by rw [p_fill_0]; exact hD
  refine lv_istore_n (lv' := [(3, .int (nI n)), (2, .int (nI 0)), (0, .ref q), (1, .int v)]) hx hb dJ7_fill_53178_4 rfl hl (by decide) rfl (fun ls hl => ?_)
  suffices hloop1 : ∀ (fu1 : Nat) (i : Nat), (i ≤ n) → n - i < fu1 → ∀ (H : Heap) (locs : List Loc) (ls : Array Slot), va_P G.1 vwCl (wA G q n (p_fill f 0 i v)) H → va_D A (wA G q n (p_fill f 0 i v)) → va_S A s.heap H locs → lv_has ls 4 [(0, .ref q), (1, .int v), (2, .int (nI i)), (3, .int (nI n))] → W p l e ({ frames := 0, cells := 0, slots := 0, locals := 0 } : Room) s m args below meth c H locs 0 0 Q (F0 m 5 ls []) from hloop1 _ 0 (Nat.zero_le _) (Nat.lt_succ_self _) _ _ _ hP hD hS (lv_sub hl [2, 3, 1, 0] rfl)
  clear hP hD hS hl
  intro fu1
  induction fu1 with
  | zero => intro i hi2 hfu; exact absurd hfu (Nat.not_lt_zero _)
  | succ fu1 ih1 =>
    intro i hi2 hfu1 H locs ls hP hD hS hl
    refine lv_iload_n hx hb dJ7_fill_53178_5 rfl (lv_at hl 2 rfl) ?_
    refine lv_iload_n hx hb dJ7_fill_53178_6 rfl (lv_at hl 3 rfl) ?_
    refine cmp_ge hx hb i n 20 (by omega) (by omega) dJ7_fill_53178_7 (by decide) (fun c7 => ?_) (fun c7 => ?_)
    · have e20 : i = n := by omega
      subst e20
      exact ret 20 _ _ _ () dJ7_fill_53178_20 (trivial) hP hD hS
    · refine lv_aload_n hx hb dJ7_fill_53178_10 rfl (lv_at hl 0 rfl) ?_
      refine lv_iload_n hx hb dJ7_fill_53178_11 rfl (lv_at hl 2 rfl) ?_
      refine lv_iload_n hx hb dJ7_fill_53178_12 rfl (lv_at hl 1 rfl) ?_
      refine wr_i hx hb hK hP hD hS 0 rfl i (by omega) (by omega) dJ7_fill_53178_13 (fun H locs hP hD hS => ?_)
      have hP : va_P G.1 vwCl (wA G q n (upd (p_fill f 0 i v) i v)) H := hP
      have hD : va_D A (wA G q n (upd (p_fill f 0 i v) i v)) := hD
      rw [p_fill_s (Nat.zero_le _)] at hP hD
      refine lv_iinc (v := nI (i + 1)) (lv' := [(2, .int (nI (i + 1))), (0, .ref q), (1, .int v), (3, .int (nI n))]) hx hb dJ7_fill_53178_14 hl (k := 2) rfl (inc_N i 1) (by decide) rfl (fun ls hl => ?_)
      refine lv_goto (tgt := 5) hx hb dJ7_fill_53178_17 (by decide) ?_
      exact ih1 (i + 1) (by omega) (by omega) _ _ _ hP hD hS (lv_sub hl [1, 2, 0, 3] rfl)
set_option maxHeartbeats 4000000 in
set_option maxRecDepth 100000 in
theorem c_stirred (l : Launch) (G : gG) (sz : Nat) (x y : Int32)  : MetI l yX0_stirred wsX0_stirred ({ frames := 1, cells := 0, slots := 0, locals := 21 } : Room) [.int x, .int y] G (([] : va_W)) sz (fun _ : Unit => []) (fun r _ => r = p_stir x y) := by
  refine ent_i _ cX0_stirred 4 RX0 (by decide) rfl rfl (Nat.le_of_ble_eq_true rfl) ?_
  intro p e s m args below meth c A Q ls hx hb hml hts hown hA hK hX ret hl hP hD hS
  have hl : lv_has ls 4 [(0, .int x), (1, .int y)] := hl
  refine lv_iload_n hx hb dX0_stirred_0 rfl (lv_at hl 0 rfl) ?_
  refine lv_ldc (v := -862048943) hx hb hown (hts (.constant RX0 27 (-862048943)) (by decide +kernel)) dX0_stirred_1 ?_
  refine lv_imul hx hb dX0_stirred_3 ?_
  refine lv_istore_n (lv' := [(2, .int (x * (-862048943))), (0, .int x), (1, .int y)]) hx hb dX0_stirred_4 rfl hl (by decide) rfl (fun ls hl => ?_)
  refine lv_iload_n hx hb dX0_stirred_5 rfl (lv_at hl 0 rfl) ?_
  refine lv_bipush (v := nI 17) hx hb dX0_stirred_6 (by decide) ?_
  refine call_Ni (wr := ([] : va_W)) [.int (x * (-862048943)), .int (nI 17)] [] ⟨hx, hb, hml, hown, hts⟩ hK hX hA hP hD hS (c_right l G _ (x * (-862048943)) (nI 17)) ⟨va_cnB 2 hts gX0_stirred_X2_right_n28 rfl rfl rfl hX.2.2.2.2.2.1 (hts (.initialized RX2) (by decide +kernel)) (by decide +kernel) ⟨Nat.le_of_ble_eq_true rfl, Nat.le_of_ble_eq_true rfl⟩, hts (.static yX2_right) (by decide +kernel), trivial⟩ [] [] rfl rfl (by decide) (by decide) (by decide) rfl hl.1 (Nat.le_of_ble_eq_true rfl) dX0_stirred_8 ⟨Nat.zero_le _, Nat.zero_le _⟩ (fun r_1 u H locs hw hP hD hS => ?_)
  obtain rfl := hw
  have hP : va_P G.1 vwCl (([] : va_W)) H := hP
  have hD : va_D A (([] : va_W)) := hD
  refine lv_ldc (v := 461845907) hx hb hown (hts (.constant RX0 33 (461845907)) (by decide +kernel)) dX0_stirred_11 ?_
  refine top_i (nI 461845907) (by decide) ?_
  refine lv_imul hx hb dX0_stirred_13 ?_
  refine lv_istore_n (lv' := [(2, .int ((p_rot (x * (-862048943)) (nI 17)) * nI 461845907)), (0, .int x), (1, .int y)]) hx hb dX0_stirred_14 rfl hl (by decide) rfl (fun ls hl => ?_)
  refine lv_iload_n hx hb dX0_stirred_15 rfl (lv_at hl 2 rfl) ?_
  refine lv_iload_n hx hb dX0_stirred_16 rfl (lv_at hl 0 rfl) ?_
  refine lv_ixor hx hb dX0_stirred_17 ?_
  refine lv_istore_n (lv' := [(3, .int (y ^^^ ((p_rot (x * (-862048943)) (nI 17)) * nI 461845907))), (2, .int ((p_rot (x * (-862048943)) (nI 17)) * nI 461845907)), (0, .int x), (1, .int y)]) hx hb dX0_stirred_18 rfl hl (by decide) rfl (fun ls hl => ?_)
  refine lv_iload_n hx hb dX0_stirred_19 rfl (lv_at hl 0 rfl) ?_
  refine lv_bipush (v := nI 19) hx hb dX0_stirred_20 (by decide) ?_
  refine call_Ni (wr := ([] : va_W)) [.int (y ^^^ ((p_rot (x * (-862048943)) (nI 17)) * nI 461845907)), .int (nI 19)] [] ⟨hx, hb, hml, hown, hts⟩ hK hX hA hP hD hS (c_right l G _ (y ^^^ ((p_rot (x * (-862048943)) (nI 17)) * nI 461845907)) (nI 19)) ⟨va_cnB 2 hts gX0_stirred_X2_right_n28 rfl rfl rfl hX.2.2.2.2.2.1 (hts (.initialized RX2) (by decide +kernel)) (by decide +kernel) ⟨Nat.le_of_ble_eq_true rfl, Nat.le_of_ble_eq_true rfl⟩, hts (.static yX2_right) (by decide +kernel), trivial⟩ [] [] rfl rfl (by decide) (by decide) (by decide) rfl hl.1 (Nat.le_of_ble_eq_true rfl) dX0_stirred_22 ⟨Nat.zero_le _, Nat.zero_le _⟩ (fun r_2 u H locs hw hP hD hS => ?_)
  obtain rfl := hw
  have hP : va_P G.1 vwCl (([] : va_W)) H := hP
  have hD : va_D A (([] : va_W)) := hD
  refine lv_iconst (v := nI 5) hx hb dX0_stirred_25 (by decide) ?_
  refine lv_imul hx hb dX0_stirred_26 ?_
  refine lv_ldc (v := -430675100) hx hb hown (hts (.constant RX0 34 (-430675100)) (by decide +kernel)) dX0_stirred_27 ?_
  refine lv_iadd hx hb dX0_stirred_29 ?_
  refine lv_istore_n (lv' := [(3, .int (((p_rot (y ^^^ ((p_rot (x * (-862048943)) (nI 17)) * nI 461845907)) (nI 19)) * nI 5) + (-430675100))), (2, .int ((p_rot (x * (-862048943)) (nI 17)) * nI 461845907)), (0, .int x), (1, .int y)]) hx hb dX0_stirred_30 rfl hl (by decide) rfl (fun ls hl => ?_)
  refine lv_iload_n hx hb dX0_stirred_31 rfl (lv_at hl 0 rfl) ?_
  refine lv_iconst (v := nI 4) hx hb dX0_stirred_32 (by decide) ?_
  refine lv_ixor hx hb dX0_stirred_33 ?_
  refine lv_istore_n (lv' := [(3, .int ((((p_rot (y ^^^ ((p_rot (x * (-862048943)) (nI 17)) * nI 461845907)) (nI 19)) * nI 5) + (-430675100)) ^^^ nI 4)), (2, .int ((p_rot (x * (-862048943)) (nI 17)) * nI 461845907)), (0, .int x), (1, .int y)]) hx hb dX0_stirred_34 rfl hl (by decide) rfl (fun ls hl => ?_)
  refine lv_iload_n hx hb dX0_stirred_35 rfl (lv_at hl 0 rfl) ?_
  refine lv_iload_n hx hb dX0_stirred_36 rfl (lv_at hl 0 rfl) ?_
  refine lv_bipush (v := nI 16) hx hb dX0_stirred_37 (by decide) ?_
  refine lv_iushr (v := (p_ush ((((p_rot (y ^^^ ((p_rot (x * (-862048943)) (nI 17)) * nI 461845907)) (nI 19)) * nI 5) + (-430675100)) ^^^ nI 4) (nI 16))) hx hb dX0_stirred_39 rfl ?_
  refine lv_ixor hx hb dX0_stirred_40 ?_
  refine lv_ldc (v := -2048144789) hx hb hown (hts (.constant RX0 35 (-2048144789)) (by decide +kernel)) dX0_stirred_41 ?_
  refine lv_imul hx hb dX0_stirred_43 ?_
  refine lv_istore_n (lv' := [(3, .int ((((((p_rot (y ^^^ ((p_rot (x * (-862048943)) (nI 17)) * nI 461845907)) (nI 19)) * nI 5) + (-430675100)) ^^^ nI 4) ^^^ (p_ush ((((p_rot (y ^^^ ((p_rot (x * (-862048943)) (nI 17)) * nI 461845907)) (nI 19)) * nI 5) + (-430675100)) ^^^ nI 4) (nI 16))) * (-2048144789))), (2, .int ((p_rot (x * (-862048943)) (nI 17)) * nI 461845907)), (0, .int x), (1, .int y)]) hx hb dX0_stirred_44 rfl hl (by decide) rfl (fun ls hl => ?_)
  refine lv_iload_n hx hb dX0_stirred_45 rfl (lv_at hl 0 rfl) ?_
  refine lv_iload_n hx hb dX0_stirred_46 rfl (lv_at hl 0 rfl) ?_
  refine lv_bipush (v := nI 13) hx hb dX0_stirred_47 (by decide) ?_
  refine lv_iushr (v := (p_ush ((((((p_rot (y ^^^ ((p_rot (x * (-862048943)) (nI 17)) * nI 461845907)) (nI 19)) * nI 5) + (-430675100)) ^^^ nI 4) ^^^ (p_ush ((((p_rot (y ^^^ ((p_rot (x * (-862048943)) (nI 17)) * nI 461845907)) (nI 19)) * nI 5) + (-430675100)) ^^^ nI 4) (nI 16))) * (-2048144789)) (nI 13))) hx hb dX0_stirred_49 rfl ?_
  refine lv_ixor hx hb dX0_stirred_50 ?_
  refine lv_ldc (v := -1028477387) hx hb hown (hts (.constant RX0 36 (-1028477387)) (by decide +kernel)) dX0_stirred_51 ?_
  refine lv_imul hx hb dX0_stirred_53 ?_
  refine lv_istore_n (lv' := [(3, .int ((((((((p_rot (y ^^^ ((p_rot (x * (-862048943)) (nI 17)) * nI 461845907)) (nI 19)) * nI 5) + (-430675100)) ^^^ nI 4) ^^^ (p_ush ((((p_rot (y ^^^ ((p_rot (x * (-862048943)) (nI 17)) * nI 461845907)) (nI 19)) * nI 5) + (-430675100)) ^^^ nI 4) (nI 16))) * (-2048144789)) ^^^ (p_ush ((((((p_rot (y ^^^ ((p_rot (x * (-862048943)) (nI 17)) * nI 461845907)) (nI 19)) * nI 5) + (-430675100)) ^^^ nI 4) ^^^ (p_ush ((((p_rot (y ^^^ ((p_rot (x * (-862048943)) (nI 17)) * nI 461845907)) (nI 19)) * nI 5) + (-430675100)) ^^^ nI 4) (nI 16))) * (-2048144789)) (nI 13))) * (-1028477387))), (2, .int ((p_rot (x * (-862048943)) (nI 17)) * nI 461845907)), (0, .int x), (1, .int y)]) hx hb dX0_stirred_54 rfl hl (by decide) rfl (fun ls hl => ?_)
  refine lv_iload_n hx hb dX0_stirred_55 rfl (lv_at hl 0 rfl) ?_
  refine lv_iload_n hx hb dX0_stirred_56 rfl (lv_at hl 0 rfl) ?_
  refine lv_bipush (v := nI 16) hx hb dX0_stirred_57 (by decide) ?_
  refine lv_iushr (v := (p_ush ((((((((p_rot (y ^^^ ((p_rot (x * (-862048943)) (nI 17)) * nI 461845907)) (nI 19)) * nI 5) + (-430675100)) ^^^ nI 4) ^^^ (p_ush ((((p_rot (y ^^^ ((p_rot (x * (-862048943)) (nI 17)) * nI 461845907)) (nI 19)) * nI 5) + (-430675100)) ^^^ nI 4) (nI 16))) * (-2048144789)) ^^^ (p_ush ((((((p_rot (y ^^^ ((p_rot (x * (-862048943)) (nI 17)) * nI 461845907)) (nI 19)) * nI 5) + (-430675100)) ^^^ nI 4) ^^^ (p_ush ((((p_rot (y ^^^ ((p_rot (x * (-862048943)) (nI 17)) * nI 461845907)) (nI 19)) * nI 5) + (-430675100)) ^^^ nI 4) (nI 16))) * (-2048144789)) (nI 13))) * (-1028477387)) (nI 16))) hx hb dX0_stirred_59 rfl ?_
  refine lv_ixor hx hb dX0_stirred_60 ?_
  exact ret 61 _ _ _ (((((((((p_rot (y ^^^ ((p_rot (x * (-862048943)) (nI 17)) * nI 461845907)) (nI 19)) * nI 5) + (-430675100)) ^^^ nI 4) ^^^ (p_ush ((((p_rot (y ^^^ ((p_rot (x * (-862048943)) (nI 17)) * nI 461845907)) (nI 19)) * nI 5) + (-430675100)) ^^^ nI 4) (nI 16))) * (-2048144789)) ^^^ (p_ush ((((((p_rot (y ^^^ ((p_rot (x * (-862048943)) (nI 17)) * nI 461845907)) (nI 19)) * nI 5) + (-430675100)) ^^^ nI 4) ^^^ (p_ush ((((p_rot (y ^^^ ((p_rot (x * (-862048943)) (nI 17)) * nI 461845907)) (nI 19)) * nI 5) + (-430675100)) ^^^ nI 4) (nI 16))) * (-2048144789)) (nI 13))) * (-1028477387)) ^^^ (p_ush ((((((((p_rot (y ^^^ ((p_rot (x * (-862048943)) (nI 17)) * nI 461845907)) (nI 19)) * nI 5) + (-430675100)) ^^^ nI 4) ^^^ (p_ush ((((p_rot (y ^^^ ((p_rot (x * (-862048943)) (nI 17)) * nI 461845907)) (nI 19)) * nI 5) + (-430675100)) ^^^ nI 4) (nI 16))) * (-2048144789)) ^^^ (p_ush ((((((p_rot (y ^^^ ((p_rot (x * (-862048943)) (nI 17)) * nI 461845907)) (nI 19)) * nI 5) + (-430675100)) ^^^ nI 4) ^^^ (p_ush ((((p_rot (y ^^^ ((p_rot (x * (-862048943)) (nI 17)) * nI 461845907)) (nI 19)) * nI 5) + (-430675100)) ^^^ nI 4) (nI 16))) * (-2048144789)) (nI 13))) * (-1028477387)) (nI 16))) () dX0_stirred_61 (rfl) hP hD hS
set_option maxHeartbeats 4000000 in
set_option maxRecDepth 100000 in
theorem c_bitOf (l : Launch) (G : gG) (sz : Nat) (x y : Int32)  : MetI l yX0_bitOf wsX0_bitOf ({ frames := 2, cells := 0, slots := 0, locals := 44 } : Room) [.int x, .int y] G (([] : va_W)) sz (fun _ : Unit => []) (fun r _ => r = nI (p_bit x y)) := by
  refine ent_i _ cX0_bitOf 2 RX0 (by decide) rfl rfl (Nat.le_of_ble_eq_true rfl) ?_
  intro p e s m args below meth c A Q ls hx hb hml hts hown hA hK hX ret hl hP hD hS
  have hl : lv_has ls 2 [(0, .int x), (1, .int y)] := hl
  refine lv_iload_n hx hb dX0_bitOf_0 rfl (lv_at hl 0 rfl) ?_
  refine lv_iconst (v := nI 0) hx hb dX0_bitOf_1 (by decide) ?_
  refine call_Si (wr := ([] : va_W)) [.int x, .int (nI 0)] [] ⟨hx, hb, hml, hown, hts⟩ hK hX hA hP hD hS (c_stirred l G _ x (nI 0)) (va_cwS 2 hts gX0_bitOf_X0_stirred rfl rfl rfl (by decide +kernel) ⟨Nat.le_of_ble_eq_true rfl, Nat.le_of_ble_eq_true rfl⟩) [] [] rfl rfl (by decide) (by decide) (by decide) rfl hl.1 (Nat.le_of_ble_eq_true rfl) dX0_bitOf_2 ⟨Nat.zero_le _, Nat.zero_le _⟩ (fun r_1 u H locs hw hP hD hS => ?_)
  obtain rfl := hw
  have hP : va_P G.1 vwCl (([] : va_W)) H := hP
  have hD : va_D A (([] : va_W)) := hD
  refine lv_iload_n hx hb dX0_bitOf_5 rfl (lv_at hl 1 rfl) ?_
  refine lv_iload_n hx hb dX0_bitOf_6 rfl (lv_at hl 0 rfl) ?_
  refine lv_ldc (v := -1756908916) hx hb hown (hts (.constant RX0 26 (-1756908916)) (by decide +kernel)) dX0_bitOf_7 ?_
  refine call_Si (wr := ([] : va_W)) [.int x, .int (-1756908916)] [.int y, .int (p_stir x (nI 0))] ⟨hx, hb, hml, hown, hts⟩ hK hX hA hP hD hS (c_stirred l G _ x (-1756908916)) (va_cwS 2 hts gX0_bitOf_X0_stirred rfl rfl rfl (by decide +kernel) ⟨Nat.le_of_ble_eq_true rfl, Nat.le_of_ble_eq_true rfl⟩) [] [] rfl rfl (by decide) (by decide) (by decide) rfl hl.1 (Nat.le_of_ble_eq_true rfl) dX0_bitOf_9 ⟨Nat.zero_le _, Nat.zero_le _⟩ (fun r_2 u H locs hw hP hD hS => ?_)
  obtain rfl := hw
  have hP : va_P G.1 vwCl (([] : va_W)) H := hP
  have hD : va_D A (([] : va_W)) := hD
  refine lv_imul hx hb dX0_bitOf_12 ?_
  refine lv_iadd hx hb dX0_bitOf_13 ?_
  refine lv_sipush (v := nI 1023) hx hb dX0_bitOf_14 (by decide) ?_
  refine lv_iand hx hb dX0_bitOf_17 ?_
  exact ret 18 _ _ _ (((p_stir x (nI 0)) + (y * (p_stir x (-1756908916)))) &&& nI 1023) () dX0_bitOf_18 (p_bit_eq x y) hP hD hS
abbrev wF (G : gG) (o q : Nat) (f : Nat → Int32) : va_W := [(o, .inr (0, [.ref q])), (q, .inl (G.2.2.1, 32, .inl f))]
