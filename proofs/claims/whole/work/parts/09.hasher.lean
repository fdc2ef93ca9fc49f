abbrev wMx (G : gG) (o x y z q : Nat) (f g : Nat → Int32) : va_W := [(o, .inr (1, [.ref x, .ref y, .ref z])), (z, .inl (G.2.2.1, 64, .inl f)), (q, .inl (G.2.2.1, 8, .inl g))]
set_option maxHeartbeats 4000000 in
set_option maxRecDepth 100000 in
theorem c_mixInto (l : Launch) (G : gG) (sz : Nat) (o x y z q : Nat) (f g : Nat → Int32)  : MetV l yX1_mixInto wsX1_mixInto ({ frames := 2, cells := 0, slots := 0, locals := 44 } : Room) [.ref o, .ref q] G (wMx G o x y z q f g) sz (fun _ : Unit => wMx G o x y z q (p_w f) (p_mix g f)) (fun _ => True) := by
  refine ent_v _ cX1_mixInto 13 RX1 (by decide) rfl rfl (Nat.le_of_ble_eq_true rfl) ?_
  intro p e s m args below meth c A Q ls hx hb hml hts hown hA hK hX ret hl hP hD hS
  have hl : lv_has ls 13 [(0, .ref o), (1, .ref q)] := hl
  have lk18 := hts (.fieldLink RX1 18 "MinedLedger$Hasher" "w" "[I") (by decide +kernel)
  have lk61 := hts (.fieldLink RX1 61 "MinedLedger$Hasher" "K" "[I") (by decide +kernel)
  have hiX1 : ∀ w ∈ wsX10, w ∈ wsX1_mixInto := by decide +kernel
  refine lv_aload_n hx hb dX1_mixInto_0 rfl (lv_at hl 0 rfl) ?_
  refine call_Vv (wr := ([(q, .inl (G.2.2.1, 8, .inl g))] : va_W)) [] [] ⟨hx, hb, hml, hown, hts⟩ hK hX hA hP hD hS (c_spread l G _ o x y z f) (cwV 0 hts gX1_mixInto_X1_spread rfl rfl rfl (by decide +kernel) ⟨Nat.le_of_ble_eq_true rfl, Nat.le_of_ble_eq_true rfl⟩) 1 0 rfl rfl rfl [0, 1] [2] rfl rfl (by decide) (by decide) (by decide) rfl hl.1 (Nat.le_of_ble_eq_true rfl) dX1_mixInto_1 ⟨Nat.zero_le _, Nat.zero_le _⟩ (fun u H locs hw hP hD hS => ?_)
  have hP : va_P G.1 vwCl (wMx G o x y z q (p_w f) g) H := hP.sub [1, 2, 0] rfl
  have hD : va_D A (wMx G o x y z q (p_w f) g) := hD.sub [1, 2, 0] (by decide) rfl
  refine lv_aload_n hx hb dX1_mixInto_4 rfl (lv_at hl 1 rfl) ?_
  refine lv_iconst (v := nI 0) hx hb dX1_mixInto_5 (by decide) ?_
  refine rd_i hx hb hK hP 2 rfl 0 (by omega) (by omega) dX1_mixInto_6 ?_
  refine lv_istore_n (lv' := [(2, .int (g 0)), (0, .ref o), (1, .ref q)]) hx hb dX1_mixInto_7 rfl hl (by decide) rfl (fun ls hl => ?_)
  refine lv_aload_n hx hb dX1_mixInto_8 rfl (lv_at hl 2 rfl) ?_
  refine lv_iconst (v := nI 1) hx hb dX1_mixInto_9 (by decide) ?_
  refine rd_i hx hb hK hP 2 rfl 1 (by omega) (by omega) dX1_mixInto_10 ?_
  refine lv_istore_n (lv' := [(3, .int (g 1)), (2, .int (g 0)), (0, .ref o), (1, .ref q)]) hx hb dX1_mixInto_11 rfl hl (by decide) rfl (fun ls hl => ?_)
  refine lv_aload_n hx hb dX1_mixInto_12 rfl (lv_at hl 3 rfl) ?_
  refine lv_iconst (v := nI 2) hx hb dX1_mixInto_13 (by decide) ?_
  refine rd_i hx hb hK hP 2 rfl 2 (by omega) (by omega) dX1_mixInto_14 ?_
  refine lv_istore (lv' := [(4, .int (g 2)), (3, .int (g 1)), (2, .int (g 0)), (0, .ref o), (1, .ref q)]) hx hb dX1_mixInto_15 hl (by decide) rfl (fun ls hl => ?_)
  refine lv_aload_n hx hb dX1_mixInto_17 rfl (lv_at hl 4 rfl) ?_
  refine lv_iconst (v := nI 3) hx hb dX1_mixInto_18 (by decide) ?_
  refine rd_i hx hb hK hP 2 rfl 3 (by omega) (by omega) dX1_mixInto_19 ?_
  refine lv_istore (lv' := [(5, .int (g 3)), (4, .int (g 2)), (3, .int (g 1)), (2, .int (g 0)), (0, .ref o), (1, .ref q)]) hx hb dX1_mixInto_20 hl (by decide) rfl (fun ls hl => ?_)
  refine lv_aload_n hx hb dX1_mixInto_22 rfl (lv_at hl 5 rfl) ?_
  refine lv_iconst (v := nI 4) hx hb dX1_mixInto_23 (by decide) ?_
  refine rd_i hx hb hK hP 2 rfl 4 (by omega) (by omega) dX1_mixInto_24 ?_
  refine lv_istore (lv' := [(6, .int (g 4)), (5, .int (g 3)), (4, .int (g 2)), (3, .int (g 1)), (2, .int (g 0)), (0, .ref o), (1, .ref q)]) hx hb dX1_mixInto_25 hl (by decide) rfl (fun ls hl => ?_)
  refine lv_aload_n hx hb dX1_mixInto_27 rfl (lv_at hl 6 rfl) ?_
  refine lv_iconst (v := nI 5) hx hb dX1_mixInto_28 (by decide) ?_
  refine rd_i hx hb hK hP 2 rfl 5 (by omega) (by omega) dX1_mixInto_29 ?_
  refine lv_istore (lv' := [(7, .int (g 5)), (6, .int (g 4)), (5, .int (g 3)), (4, .int (g 2)), (3, .int (g 1)), (2, .int (g 0)), (0, .ref o), (1, .ref q)]) hx hb dX1_mixInto_30 hl (by decide) rfl (fun ls hl => ?_)
  refine lv_aload_n hx hb dX1_mixInto_32 rfl (lv_at hl 7 rfl) ?_
  refine lv_bipush (v := nI 6) hx hb dX1_mixInto_33 (by decide) ?_
  refine rd_i hx hb hK hP 2 rfl 6 (by omega) (by omega) dX1_mixInto_35 ?_
  refine lv_istore (lv' := [(8, .int (g 6)), (7, .int (g 5)), (6, .int (g 4)), (5, .int (g 3)), (4, .int (g 2)), (3, .int (g 1)), (2, .int (g 0)), (0, .ref o), (1, .ref q)]) hx hb dX1_mixInto_36 hl (by decide) rfl (fun ls hl => ?_)
  refine lv_aload_n hx hb dX1_mixInto_38 rfl (lv_at hl 8 rfl) ?_
  refine lv_bipush (v := nI 7) hx hb dX1_mixInto_39 (by decide) ?_
  refine rd_i hx hb hK hP 2 rfl 7 (by omega) (by omega) dX1_mixInto_41 ?_
  refine lv_istore (lv' := [(9, .int (g 7)), (8, .int (g 6)), (7, .int (g 5)), (6, .int (g 4)), (5, .int (g 3)), (4, .int (g 2)), (3, .int (g 1)), (2, .int (g 0)), (0, .ref o), (1, .ref q)]) hx hb dX1_mixInto_42 hl (by decide) rfl (fun ls hl => ?_)
  refine lv_iconst (v := nI 0) hx hb dX1_mixInto_44 (by decide) ?_
  refine lv_istore (lv' := [(10, .int (nI 0)), (9, .int (g 7)), (8, .int (g 6)), (7, .int (g 5)), (6, .int (g 4)), (5, .int (g 3)), (4, .int (g 2)), (3, .int (g 1)), (2, .int (g 0)), (0, .ref o), (1, .ref q)]) hx hb dX1_mixInto_45 hl (by decide) rfl (fun ls hl => ?_)
  suffices hloop1 : ∀ (fu1 : Nat) (t : Nat) (v1 : Int32) (v2 : Int32) (v3 : Int32) (v4 : Int32) (v5 : Int32) (v6 : Int32) (v7 : Int32) (v8 : Int32), (t ≤ 64) → ((v1, v2, v3, v4, v5, v6, v7, v8) = p_rs (p_w f) (p_tup g) t) → 64 - t < fu1 → ∀ (H : Heap) (locs : List Loc) (ls : Array Slot), va_P G.1 vwCl (wMx G o x y z q (p_w f) g) H → va_D A (wMx G o x y z q (p_w f) g) → va_S A s.heap H locs → lv_has ls 13 [(0, .ref o), (1, .ref q), (2, .int v1), (3, .int v2), (4, .int v3), (5, .int v4), (6, .int v5), (7, .int v6), (8, .int v7), (9, .int v8), (10, .int (nI t))] → W p l e ({ frames := 2, cells := 0, slots := 0, locals := 44 } : Room) s m args below meth c H locs 0 0 Q (F0 m 47 ls []) from hloop1 _ 0 (g 0) (g 1) (g 2) (g 3) (g 4) (g 5) (g 6) (g 7) (Nat.zero_le _) rfl (Nat.lt_succ_self _) _ _ _ hP hD hS (lv_sub hl [9, 10, 8, 7, 6, 5, 4, 3, 2, 1, 0] rfl)
  clear hP hD hS hl
  intro fu1
  induction fu1 with
  | zero => intro t v1 v2 v3 v4 v5 v6 v7 v8 ht hst hfu; exact absurd hfu (Nat.not_lt_zero _)
  | succ fu1 ih1 =>
    intro t v1 v2 v3 v4 v5 v6 v7 v8 ht hst hfu1 H locs ls hP hD hS hl
    refine lv_iload hx hb dX1_mixInto_47 (lv_at hl 10 rfl) ?_
    refine lv_bipush (v := nI 64) hx hb dX1_mixInto_49 (by decide) ?_
    refine cmp_ge hx hb t 64 186 (by omega) (by omega) dX1_mixInto_51 (by decide) (fun c51 => ?_) (fun c51 => ?_)
    · have e186 : t = 64 := by omega
      subst e186
      refine lv_aload_n hx hb dX1_mixInto_186 rfl (lv_at hl 1 rfl) ?_
      refine lv_iconst (v := nI 0) hx hb dX1_mixInto_187 (by decide) ?_
      refine lv_dup2_11 hx hb dX1_mixInto_188 rfl rfl ?_
      refine rd_i hx hb hK hP 2 rfl 0 (by omega) (by omega) dX1_mixInto_189 ?_
      refine top_i (g 0) rfl ?_
      refine lv_iload_n hx hb dX1_mixInto_190 rfl (lv_at hl 2 rfl) ?_
      refine lv_iadd hx hb dX1_mixInto_191 ?_
      refine wr_i hx hb hK hP hD hS 2 rfl 0 (by omega) (by omega) dX1_mixInto_192 (fun H locs hP hD hS => ?_)
      have hP : va_P G.1 vwCl (wMx G o x y z q (p_w f) (upd g 0 ((g 0) + v1))) H := hP
      have hD : va_D A (wMx G o x y z q (p_w f) (upd g 0 ((g 0) + v1))) := hD
      refine lv_aload_n hx hb dX1_mixInto_193 rfl (lv_at hl 1 rfl) ?_
      refine lv_iconst (v := nI 1) hx hb dX1_mixInto_194 (by decide) ?_
      refine lv_dup2_11 hx hb dX1_mixInto_195 rfl rfl ?_
      refine rd_i hx hb hK hP 2 rfl 1 (by omega) (by omega) dX1_mixInto_196 ?_
      refine top_i (g 1) rfl ?_
      refine lv_iload_n hx hb dX1_mixInto_197 rfl (lv_at hl 3 rfl) ?_
      refine lv_iadd hx hb dX1_mixInto_198 ?_
      refine wr_i hx hb hK hP hD hS 2 rfl 1 (by omega) (by omega) dX1_mixInto_199 (fun H locs hP hD hS => ?_)
      have hP : va_P G.1 vwCl (wMx G o x y z q (p_w f) (upd (upd g 0 ((g 0) + v1)) 1 ((g 1) + v2))) H := hP
      have hD : va_D A (wMx G o x y z q (p_w f) (upd (upd g 0 ((g 0) + v1)) 1 ((g 1) + v2))) := hD
      refine lv_aload_n hx hb dX1_mixInto_200 rfl (lv_at hl 1 rfl) ?_
      refine lv_iconst (v := nI 2) hx hb dX1_mixInto_201 (by decide) ?_
      refine lv_dup2_11 hx hb dX1_mixInto_202 rfl rfl ?_
      refine rd_i hx hb hK hP 2 rfl 2 (by omega) (by omega) dX1_mixInto_203 ?_
      refine top_i (g 2) rfl ?_
      refine lv_iload hx hb dX1_mixInto_204 (lv_at hl 4 rfl) ?_
      refine lv_iadd hx hb dX1_mixInto_206 ?_
      refine wr_i hx hb hK hP hD hS 2 rfl 2 (by omega) (by omega) dX1_mixInto_207 (fun H locs hP hD hS => ?_)
      have hP : va_P G.1 vwCl (wMx G o x y z q (p_w f) (upd (upd (upd g 0 ((g 0) + v1)) 1 ((g 1) + v2)) 2 ((g 2) + v3))) H := hP
      have hD : va_D A (wMx G o x y z q (p_w f) (upd (upd (upd g 0 ((g 0) + v1)) 1 ((g 1) + v2)) 2 ((g 2) + v3))) := hD
      refine lv_aload_n hx hb dX1_mixInto_208 rfl (lv_at hl 1 rfl) ?_
      refine lv_iconst (v := nI 3) hx hb dX1_mixInto_209 (by decide) ?_
      refine lv_dup2_11 hx hb dX1_mixInto_210 rfl rfl ?_
      refine rd_i hx hb hK hP 2 rfl 3 (by omega) (by omega) dX1_mixInto_211 ?_
      refine top_i (g 3) rfl ?_
      refine lv_iload hx hb dX1_mixInto_212 (lv_at hl 5 rfl) ?_
      refine lv_iadd hx hb dX1_mixInto_214 ?_
      refine wr_i hx hb hK hP hD hS 2 rfl 3 (by omega) (by omega) dX1_mixInto_215 (fun H locs hP hD hS => ?_)
      have hP : va_P G.1 vwCl (wMx G o x y z q (p_w f) (upd (upd (upd (upd g 0 ((g 0) + v1)) 1 ((g 1) + v2)) 2 ((g 2) + v3)) 3 ((g 3) + v4))) H := hP
      have hD : va_D A (wMx G o x y z q (p_w f) (upd (upd (upd (upd g 0 ((g 0) + v1)) 1 ((g 1) + v2)) 2 ((g 2) + v3)) 3 ((g 3) + v4))) := hD
      refine lv_aload_n hx hb dX1_mixInto_216 rfl (lv_at hl 1 rfl) ?_
      refine lv_iconst (v := nI 4) hx hb dX1_mixInto_217 (by decide) ?_
      refine lv_dup2_11 hx hb dX1_mixInto_218 rfl rfl ?_
      refine rd_i hx hb hK hP 2 rfl 4 (by omega) (by omega) dX1_mixInto_219 ?_
      refine top_i (g 4) rfl ?_
      refine lv_iload hx hb dX1_mixInto_220 (lv_at hl 6 rfl) ?_
      refine lv_iadd hx hb dX1_mixInto_222 ?_
      refine wr_i hx hb hK hP hD hS 2 rfl 4 (by omega) (by omega) dX1_mixInto_223 (fun H locs hP hD hS => ?_)
      have hP : va_P G.1 vwCl (wMx G o x y z q (p_w f) (upd (upd (upd (upd (upd g 0 ((g 0) + v1)) 1 ((g 1) + v2)) 2 ((g 2) + v3)) 3 ((g 3) + v4)) 4 ((g 4) + v5))) H := hP
      have hD : va_D A (wMx G o x y z q (p_w f) (upd (upd (upd (upd (upd g 0 ((g 0) + v1)) 1 ((g 1) + v2)) 2 ((g 2) + v3)) 3 ((g 3) + v4)) 4 ((g 4) + v5))) := hD
      refine lv_aload_n hx hb dX1_mixInto_224 rfl (lv_at hl 1 rfl) ?_
      refine lv_iconst (v := nI 5) hx hb dX1_mixInto_225 (by decide) ?_
      refine lv_dup2_11 hx hb dX1_mixInto_226 rfl rfl ?_
      refine rd_i hx hb hK hP 2 rfl 5 (by omega) (by omega) dX1_mixInto_227 ?_
      refine top_i (g 5) rfl ?_
      refine lv_iload hx hb dX1_mixInto_228 (lv_at hl 7 rfl) ?_
      refine lv_iadd hx hb dX1_mixInto_230 ?_
      refine wr_i hx hb hK hP hD hS 2 rfl 5 (by omega) (by omega) dX1_mixInto_231 (fun H locs hP hD hS => ?_)
      have hP : va_P G.1 vwCl (wMx G o x y z q (p_w f) (upd (upd (upd (upd (upd (upd g 0 ((g 0) + v1)) 1 ((g 1) + v2)) 2 ((g 2) + v3)) 3 ((g 3) + v4)) 4 ((g 4) + v5)) 5 ((g 5) + v6))) H := hP
      have hD : va_D A (wMx G o x y z q (p_w f) (upd (upd (upd (upd (upd (upd g 0 ((g 0) + v1)) 1 ((g 1) + v2)) 2 ((g 2) + v3)) 3 ((g 3) + v4)) 4 ((g 4) + v5)) 5 ((g 5) + v6))) := hD
      refine lv_aload_n hx hb dX1_mixInto_232 rfl (lv_at hl 1 rfl) ?_
      refine lv_bipush (v := nI 6) hx hb dX1_mixInto_233 (by decide) ?_
      refine lv_dup2_11 hx hb dX1_mixInto_235 rfl rfl ?_
      refine rd_i hx hb hK hP 2 rfl 6 (by omega) (by omega) dX1_mixInto_236 ?_
      refine top_i (g 6) rfl ?_
      refine lv_iload hx hb dX1_mixInto_237 (lv_at hl 8 rfl) ?_
      refine lv_iadd hx hb dX1_mixInto_239 ?_
      refine wr_i hx hb hK hP hD hS 2 rfl 6 (by omega) (by omega) dX1_mixInto_240 (fun H locs hP hD hS => ?_)
      have hP : va_P G.1 vwCl (wMx G o x y z q (p_w f) (upd (upd (upd (upd (upd (upd (upd g 0 ((g 0) + v1)) 1 ((g 1) + v2)) 2 ((g 2) + v3)) 3 ((g 3) + v4)) 4 ((g 4) + v5)) 5 ((g 5) + v6)) 6 ((g 6) + v7))) H := hP
      have hD : va_D A (wMx G o x y z q (p_w f) (upd (upd (upd (upd (upd (upd (upd g 0 ((g 0) + v1)) 1 ((g 1) + v2)) 2 ((g 2) + v3)) 3 ((g 3) + v4)) 4 ((g 4) + v5)) 5 ((g 5) + v6)) 6 ((g 6) + v7))) := hD
      refine lv_aload_n hx hb dX1_mixInto_241 rfl (lv_at hl 1 rfl) ?_
      refine lv_bipush (v := nI 7) hx hb dX1_mixInto_242 (by decide) ?_
      refine lv_dup2_11 hx hb dX1_mixInto_244 rfl rfl ?_
      refine rd_i hx hb hK hP 2 rfl 7 (by omega) (by omega) dX1_mixInto_245 ?_
      refine top_i (g 7) rfl ?_
      refine lv_iload hx hb dX1_mixInto_246 (lv_at hl 9 rfl) ?_
      refine lv_iadd hx hb dX1_mixInto_248 ?_
      refine wr_i hx hb hK hP hD hS 2 rfl 7 (by omega) (by omega) dX1_mixInto_249 (fun H locs hP hD hS => ?_)
      have hP : va_P G.1 vwCl (wMx G o x y z q (p_w f) (upd (upd (upd (upd (upd (upd (upd (upd g 0 ((g 0) + v1)) 1 ((g 1) + v2)) 2 ((g 2) + v3)) 3 ((g 3) + v4)) 4 ((g 4) + v5)) 5 ((g 5) + v6)) 6 ((g 6) + v7)) 7 ((g 7) + v8))) H := hP
      have hD : va_D A (wMx G o x y z q (p_w f) (upd (upd (upd (upd (upd (upd (upd (upd g 0 ((g 0) + v1)) 1 ((g 1) + v2)) 2 ((g 2) + v3)) 3 ((g 3) + v4)) 4 ((g 4) + v5)) 5 ((g 5) + v6)) 6 ((g 6) + v7)) 7 ((g 7) + v8))) := hD
      have em : p_mix g f = p_add g (v1, v2, v3, v4, v5, v6, v7, v8) := by rw [hst]; rfl
      have hP : va_P G.1 vwCl (wMx G o x y z q (p_w f) (p_mix g f)) H := by rw [em]; exact hP
      have hD : va_D A (wMx G o x y z q (p_w f) (p_mix g f)) := by rw [em]; exact hD
      exact ret 250 _ _ _ () dX1_mixInto_250 (trivial) hP hD hS
    · refine lv_iload hx hb dX1_mixInto_54 (lv_at hl 9 rfl) ?_
      refine lv_iload hx hb dX1_mixInto_56 (lv_at hl 6 rfl) ?_
      refine lv_bipush (v := nI 6) hx hb dX1_mixInto_58 (by decide) ?_
      refine call_Ni (wr := ([(o, .inr (1, [.ref x, .ref y, .ref z])), (z, .inl (G.2.2.1, 64, .inl (p_w f))), (q, .inl (G.2.2.1, 8, .inl g))] : va_W)) [.int v5, .int (nI 6)] [.int v8] ⟨hx, hb, hml, hown, hts⟩ hK hX hA hP hD hS (c_right l G _ v5 (nI 6)) ⟨va_cnB 2 hts gX1_mixInto_X2_right_n57 rfl rfl rfl hX.2.2.2.2.1 (hts (.initialized RX2) (by decide +kernel)) (by decide +kernel) ⟨Nat.le_of_ble_eq_true rfl, Nat.le_of_ble_eq_true rfl⟩, hts (.static yX2_right) (by decide +kernel), trivial⟩ [] [0, 1, 2] rfl rfl (by decide) (by decide) (by decide) rfl hl.1 (Nat.le_of_ble_eq_true rfl) dX1_mixInto_60 ⟨Nat.zero_le _, Nat.zero_le _⟩ (fun r_3 u H locs hw hP hD hS => ?_)
      obtain rfl := hw
      have hP : va_P G.1 vwCl (wMx G o x y z q (p_w f) g) H := hP
      have hD : va_D A (wMx G o x y z q (p_w f) g) := hD
      refine lv_iload hx hb dX1_mixInto_63 (lv_at hl 6 rfl) ?_
      refine lv_bipush (v := nI 11) hx hb dX1_mixInto_65 (by decide) ?_
      refine call_Ni (wr := ([(o, .inr (1, [.ref x, .ref y, .ref z])), (z, .inl (G.2.2.1, 64, .inl (p_w f))), (q, .inl (G.2.2.1, 8, .inl g))] : va_W)) [.int v5, .int (nI 11)] [.int (p_rot v5 (nI 6)), .int v8] ⟨hx, hb, hml, hown, hts⟩ hK hX hA hP hD hS (c_right l G _ v5 (nI 11)) ⟨va_cnB 2 hts gX1_mixInto_X2_right_n57 rfl rfl rfl hX.2.2.2.2.1 (hts (.initialized RX2) (by decide +kernel)) (by decide +kernel) ⟨Nat.le_of_ble_eq_true rfl, Nat.le_of_ble_eq_true rfl⟩, hts (.static yX2_right) (by decide +kernel), trivial⟩ [] [0, 1, 2] rfl rfl (by decide) (by decide) (by decide) rfl hl.1 (Nat.le_of_ble_eq_true rfl) dX1_mixInto_67 ⟨Nat.zero_le _, Nat.zero_le _⟩ (fun r_4 u H locs hw hP hD hS => ?_)
      obtain rfl := hw
      have hP : va_P G.1 vwCl (wMx G o x y z q (p_w f) g) H := hP
      have hD : va_D A (wMx G o x y z q (p_w f) g) := hD
      refine lv_ixor hx hb dX1_mixInto_70 ?_
      refine lv_iload hx hb dX1_mixInto_71 (lv_at hl 6 rfl) ?_
      refine lv_bipush (v := nI 25) hx hb dX1_mixInto_73 (by decide) ?_
      refine call_Ni (wr := ([(o, .inr (1, [.ref x, .ref y, .ref z])), (z, .inl (G.2.2.1, 64, .inl (p_w f))), (q, .inl (G.2.2.1, 8, .inl g))] : va_W)) [.int v5, .int (nI 25)] [.int ((p_rot v5 (nI 6)) ^^^ (p_rot v5 (nI 11))), .int v8] ⟨hx, hb, hml, hown, hts⟩ hK hX hA hP hD hS (c_right l G _ v5 (nI 25)) ⟨va_cnB 2 hts gX1_mixInto_X2_right_n57 rfl rfl rfl hX.2.2.2.2.1 (hts (.initialized RX2) (by decide +kernel)) (by decide +kernel) ⟨Nat.le_of_ble_eq_true rfl, Nat.le_of_ble_eq_true rfl⟩, hts (.static yX2_right) (by decide +kernel), trivial⟩ [] [0, 1, 2] rfl rfl (by decide) (by decide) (by decide) rfl hl.1 (Nat.le_of_ble_eq_true rfl) dX1_mixInto_75 ⟨Nat.zero_le _, Nat.zero_le _⟩ (fun r_5 u H locs hw hP hD hS => ?_)
      obtain rfl := hw
      have hP : va_P G.1 vwCl (wMx G o x y z q (p_w f) g) H := hP
      have hD : va_D A (wMx G o x y z q (p_w f) g) := hD
      refine lv_ixor hx hb dX1_mixInto_78 ?_
      refine lv_iadd hx hb dX1_mixInto_79 ?_
      refine lv_iload hx hb dX1_mixInto_80 (lv_at hl 6 rfl) ?_
      refine lv_iload hx hb dX1_mixInto_82 (lv_at hl 7 rfl) ?_
      refine lv_iand hx hb dX1_mixInto_84 ?_
      refine lv_iload hx hb dX1_mixInto_85 (lv_at hl 6 rfl) ?_
      refine lv_iconst (v := (-1)) hx hb dX1_mixInto_87 (by decide) ?_
      refine lv_ixor hx hb dX1_mixInto_88 ?_
      refine lv_iload hx hb dX1_mixInto_89 (lv_at hl 8 rfl) ?_
      refine lv_iand hx hb dX1_mixInto_91 ?_
      refine lv_ixor hx hb dX1_mixInto_92 ?_
      refine lv_iadd hx hb dX1_mixInto_93 ?_
      refine va_gets (v := .ref G.2.1.2) hx hb hX.2.2.1 hS hown lk61 (fun _ h9 => h9) dX1_mixInto_94 ?_
      refine lv_iload hx hb dX1_mixInto_97 (lv_at hl 10 rfl) ?_
      refine va_ti hx hb hX.2.2.2.1 hS (vp_in_nI (n := t) (N := 64) (by omega) (by omega)) (v := .int (st_K t)) (by rw [cl_nI (n := t) (N := 64) (by omega) (by omega)]) dX1_mixInto_99 ?_
      refine lv_iadd hx hb dX1_mixInto_100 ?_
      refine lv_aload_n hx hb dX1_mixInto_101 rfl (lv_at hl 0 rfl) ?_
      refine va_get (D := G.1) (ci := 1) (v := .ref z) (C := RX1) (T := TX1) (N := 3) hx hb hts hiX1 hown hK hP 0 rfl rfl 2 (by decide) lk18 (fun _ h9 => h9) rfl dX1_mixInto_102 ?_
      refine lv_iload hx hb dX1_mixInto_105 (lv_at hl 10 rfl) ?_
      refine rd_i hx hb hK hP 1 rfl t (by omega) (by omega) dX1_mixInto_107 ?_
      refine lv_iadd hx hb dX1_mixInto_108 ?_
      refine lv_istore (lv' := [(11, .int ((((v8 + (((p_rot v5 (nI 6)) ^^^ (p_rot v5 (nI 11))) ^^^ (p_rot v5 (nI 25)))) + ((v5 &&& v6) ^^^ ((v5 ^^^ (-1)) &&& v7))) + (st_K t)) + ((p_w f) t))), (0, .ref o), (1, .ref q), (2, .int v1), (3, .int v2), (4, .int v3), (5, .int v4), (6, .int v5), (7, .int v6), (8, .int v7), (9, .int v8), (10, .int (nI t))]) hx hb dX1_mixInto_109 hl (by decide) rfl (fun ls hl => ?_)
      refine lv_iload_n hx hb dX1_mixInto_111 rfl (lv_at hl 3 rfl) ?_
      refine lv_iconst (v := nI 2) hx hb dX1_mixInto_112 (by decide) ?_
      refine call_Ni (wr := ([(o, .inr (1, [.ref x, .ref y, .ref z])), (z, .inl (G.2.2.1, 64, .inl (p_w f))), (q, .inl (G.2.2.1, 8, .inl g))] : va_W)) [.int v1, .int (nI 2)] [] ⟨hx, hb, hml, hown, hts⟩ hK hX hA hP hD hS (c_right l G _ v1 (nI 2)) ⟨va_cnB 2 hts gX1_mixInto_X2_right_n57 rfl rfl rfl hX.2.2.2.2.1 (hts (.initialized RX2) (by decide +kernel)) (by decide +kernel) ⟨Nat.le_of_ble_eq_true rfl, Nat.le_of_ble_eq_true rfl⟩, hts (.static yX2_right) (by decide +kernel), trivial⟩ [] [0, 1, 2] rfl rfl (by decide) (by decide) (by decide) rfl hl.1 (Nat.le_of_ble_eq_true rfl) dX1_mixInto_113 ⟨Nat.zero_le _, Nat.zero_le _⟩ (fun r_6 u H locs hw hP hD hS => ?_)
      obtain rfl := hw
      have hP : va_P G.1 vwCl (wMx G o x y z q (p_w f) g) H := hP
      have hD : va_D A (wMx G o x y z q (p_w f) g) := hD
      refine lv_iload_n hx hb dX1_mixInto_116 rfl (lv_at hl 3 rfl) ?_
      refine lv_bipush (v := nI 13) hx hb dX1_mixInto_117 (by decide) ?_
      refine call_Ni (wr := ([(o, .inr (1, [.ref x, .ref y, .ref z])), (z, .inl (G.2.2.1, 64, .inl (p_w f))), (q, .inl (G.2.2.1, 8, .inl g))] : va_W)) [.int v1, .int (nI 13)] [.int (p_rot v1 (nI 2))] ⟨hx, hb, hml, hown, hts⟩ hK hX hA hP hD hS (c_right l G _ v1 (nI 13)) ⟨va_cnB 2 hts gX1_mixInto_X2_right_n57 rfl rfl rfl hX.2.2.2.2.1 (hts (.initialized RX2) (by decide +kernel)) (by decide +kernel) ⟨Nat.le_of_ble_eq_true rfl, Nat.le_of_ble_eq_true rfl⟩, hts (.static yX2_right) (by decide +kernel), trivial⟩ [] [0, 1, 2] rfl rfl (by decide) (by decide) (by decide) rfl hl.1 (Nat.le_of_ble_eq_true rfl) dX1_mixInto_119 ⟨Nat.zero_le _, Nat.zero_le _⟩ (fun r_7 u H locs hw hP hD hS => ?_)
      obtain rfl := hw
      have hP : va_P G.1 vwCl (wMx G o x y z q (p_w f) g) H := hP
      have hD : va_D A (wMx G o x y z q (p_w f) g) := hD
      refine lv_ixor hx hb dX1_mixInto_122 ?_
      refine lv_iload_n hx hb dX1_mixInto_123 rfl (lv_at hl 3 rfl) ?_
      refine lv_bipush (v := nI 22) hx hb dX1_mixInto_124 (by decide) ?_
      refine call_Ni (wr := ([(o, .inr (1, [.ref x, .ref y, .ref z])), (z, .inl (G.2.2.1, 64, .inl (p_w f))), (q, .inl (G.2.2.1, 8, .inl g))] : va_W)) [.int v1, .int (nI 22)] [.int ((p_rot v1 (nI 2)) ^^^ (p_rot v1 (nI 13)))] ⟨hx, hb, hml, hown, hts⟩ hK hX hA hP hD hS (c_right l G _ v1 (nI 22)) ⟨va_cnB 2 hts gX1_mixInto_X2_right_n57 rfl rfl rfl hX.2.2.2.2.1 (hts (.initialized RX2) (by decide +kernel)) (by decide +kernel) ⟨Nat.le_of_ble_eq_true rfl, Nat.le_of_ble_eq_true rfl⟩, hts (.static yX2_right) (by decide +kernel), trivial⟩ [] [0, 1, 2] rfl rfl (by decide) (by decide) (by decide) rfl hl.1 (Nat.le_of_ble_eq_true rfl) dX1_mixInto_126 ⟨Nat.zero_le _, Nat.zero_le _⟩ (fun r_8 u H locs hw hP hD hS => ?_)
      obtain rfl := hw
      have hP : va_P G.1 vwCl (wMx G o x y z q (p_w f) g) H := hP
      have hD : va_D A (wMx G o x y z q (p_w f) g) := hD
      refine lv_ixor hx hb dX1_mixInto_129 ?_
      refine lv_iload_n hx hb dX1_mixInto_130 rfl (lv_at hl 3 rfl) ?_
      refine lv_iload_n hx hb dX1_mixInto_131 rfl (lv_at hl 4 rfl) ?_
      refine lv_iand hx hb dX1_mixInto_132 ?_
      refine lv_iload_n hx hb dX1_mixInto_133 rfl (lv_at hl 3 rfl) ?_
      refine lv_iload hx hb dX1_mixInto_134 (lv_at hl 5 rfl) ?_
      refine lv_iand hx hb dX1_mixInto_136 ?_
      refine lv_ixor hx hb dX1_mixInto_137 ?_
      refine lv_iload_n hx hb dX1_mixInto_138 rfl (lv_at hl 4 rfl) ?_
      refine lv_iload hx hb dX1_mixInto_139 (lv_at hl 5 rfl) ?_
      refine lv_iand hx hb dX1_mixInto_141 ?_
      refine lv_ixor hx hb dX1_mixInto_142 ?_
      refine lv_iadd hx hb dX1_mixInto_143 ?_
      refine lv_istore (lv' := [(12, .int ((((p_rot v1 (nI 2)) ^^^ (p_rot v1 (nI 13))) ^^^ (p_rot v1 (nI 22))) + (((v1 &&& v2) ^^^ (v1 &&& v3)) ^^^ (v2 &&& v3)))), (11, .int ((((v8 + (((p_rot v5 (nI 6)) ^^^ (p_rot v5 (nI 11))) ^^^ (p_rot v5 (nI 25)))) + ((v5 &&& v6) ^^^ ((v5 ^^^ (-1)) &&& v7))) + (st_K t)) + ((p_w f) t))), (0, .ref o), (1, .ref q), (2, .int v1), (3, .int v2), (4, .int v3), (5, .int v4), (6, .int v5), (7, .int v6), (8, .int v7), (9, .int v8), (10, .int (nI t))]) hx hb dX1_mixInto_144 hl (by decide) rfl (fun ls hl => ?_)
      refine lv_iload hx hb dX1_mixInto_146 (lv_at hl 10 rfl) ?_
      refine lv_istore (lv' := [(9, .int v7), (12, .int ((((p_rot v1 (nI 2)) ^^^ (p_rot v1 (nI 13))) ^^^ (p_rot v1 (nI 22))) + (((v1 &&& v2) ^^^ (v1 &&& v3)) ^^^ (v2 &&& v3)))), (11, .int ((((v8 + (((p_rot v5 (nI 6)) ^^^ (p_rot v5 (nI 11))) ^^^ (p_rot v5 (nI 25)))) + ((v5 &&& v6) ^^^ ((v5 ^^^ (-1)) &&& v7))) + (st_K t)) + ((p_w f) t))), (0, .ref o), (1, .ref q), (2, .int v1), (3, .int v2), (4, .int v3), (5, .int v4), (6, .int v5), (7, .int v6), (8, .int v7), (10, .int (nI t))]) hx hb dX1_mixInto_148 hl (by decide) rfl (fun ls hl => ?_)
      refine lv_iload hx hb dX1_mixInto_150 (lv_at hl 10 rfl) ?_
      refine lv_istore (lv' := [(8, .int v6), (9, .int v7), (12, .int ((((p_rot v1 (nI 2)) ^^^ (p_rot v1 (nI 13))) ^^^ (p_rot v1 (nI 22))) + (((v1 &&& v2) ^^^ (v1 &&& v3)) ^^^ (v2 &&& v3)))), (11, .int ((((v8 + (((p_rot v5 (nI 6)) ^^^ (p_rot v5 (nI 11))) ^^^ (p_rot v5 (nI 25)))) + ((v5 &&& v6) ^^^ ((v5 ^^^ (-1)) &&& v7))) + (st_K t)) + ((p_w f) t))), (0, .ref o), (1, .ref q), (2, .int v1), (3, .int v2), (4, .int v3), (5, .int v4), (6, .int v5), (7, .int v6), (10, .int (nI t))]) hx hb dX1_mixInto_152 hl (by decide) rfl (fun ls hl => ?_)
      refine lv_iload hx hb dX1_mixInto_154 (lv_at hl 10 rfl) ?_
      refine lv_istore (lv' := [(7, .int v5), (8, .int v6), (9, .int v7), (12, .int ((((p_rot v1 (nI 2)) ^^^ (p_rot v1 (nI 13))) ^^^ (p_rot v1 (nI 22))) + (((v1 &&& v2) ^^^ (v1 &&& v3)) ^^^ (v2 &&& v3)))), (11, .int ((((v8 + (((p_rot v5 (nI 6)) ^^^ (p_rot v5 (nI 11))) ^^^ (p_rot v5 (nI 25)))) + ((v5 &&& v6) ^^^ ((v5 ^^^ (-1)) &&& v7))) + (st_K t)) + ((p_w f) t))), (0, .ref o), (1, .ref q), (2, .int v1), (3, .int v2), (4, .int v3), (5, .int v4), (6, .int v5), (10, .int (nI t))]) hx hb dX1_mixInto_156 hl (by decide) rfl (fun ls hl => ?_)
      refine lv_iload hx hb dX1_mixInto_158 (lv_at hl 10 rfl) ?_
      refine lv_iload hx hb dX1_mixInto_160 (lv_at hl 4 rfl) ?_
      refine lv_iadd hx hb dX1_mixInto_162 ?_
      refine lv_istore (lv' := [(6, .int (v4 + ((((v8 + (((p_rot v5 (nI 6)) ^^^ (p_rot v5 (nI 11))) ^^^ (p_rot v5 (nI 25)))) + ((v5 &&& v6) ^^^ ((v5 ^^^ (-1)) &&& v7))) + (st_K t)) + ((p_w f) t)))), (7, .int v5), (8, .int v6), (9, .int v7), (12, .int ((((p_rot v1 (nI 2)) ^^^ (p_rot v1 (nI 13))) ^^^ (p_rot v1 (nI 22))) + (((v1 &&& v2) ^^^ (v1 &&& v3)) ^^^ (v2 &&& v3)))), (11, .int ((((v8 + (((p_rot v5 (nI 6)) ^^^ (p_rot v5 (nI 11))) ^^^ (p_rot v5 (nI 25)))) + ((v5 &&& v6) ^^^ ((v5 ^^^ (-1)) &&& v7))) + (st_K t)) + ((p_w f) t))), (0, .ref o), (1, .ref q), (2, .int v1), (3, .int v2), (4, .int v3), (5, .int v4), (10, .int (nI t))]) hx hb dX1_mixInto_163 hl (by decide) rfl (fun ls hl => ?_)
      refine lv_iload hx hb dX1_mixInto_165 (lv_at hl 10 rfl) ?_
      refine lv_istore (lv' := [(5, .int v3), (6, .int (v4 + ((((v8 + (((p_rot v5 (nI 6)) ^^^ (p_rot v5 (nI 11))) ^^^ (p_rot v5 (nI 25)))) + ((v5 &&& v6) ^^^ ((v5 ^^^ (-1)) &&& v7))) + (st_K t)) + ((p_w f) t)))), (7, .int v5), (8, .int v6), (9, .int v7), (12, .int ((((p_rot v1 (nI 2)) ^^^ (p_rot v1 (nI 13))) ^^^ (p_rot v1 (nI 22))) + (((v1 &&& v2) ^^^ (v1 &&& v3)) ^^^ (v2 &&& v3)))), (11, .int ((((v8 + (((p_rot v5 (nI 6)) ^^^ (p_rot v5 (nI 11))) ^^^ (p_rot v5 (nI 25)))) + ((v5 &&& v6) ^^^ ((v5 ^^^ (-1)) &&& v7))) + (st_K t)) + ((p_w f) t))), (0, .ref o), (1, .ref q), (2, .int v1), (3, .int v2), (4, .int v3), (10, .int (nI t))]) hx hb dX1_mixInto_167 hl (by decide) rfl (fun ls hl => ?_)
      refine lv_iload_n hx hb dX1_mixInto_169 rfl (lv_at hl 10 rfl) ?_
      refine lv_istore (lv' := [(4, .int v2), (5, .int v3), (6, .int (v4 + ((((v8 + (((p_rot v5 (nI 6)) ^^^ (p_rot v5 (nI 11))) ^^^ (p_rot v5 (nI 25)))) + ((v5 &&& v6) ^^^ ((v5 ^^^ (-1)) &&& v7))) + (st_K t)) + ((p_w f) t)))), (7, .int v5), (8, .int v6), (9, .int v7), (12, .int ((((p_rot v1 (nI 2)) ^^^ (p_rot v1 (nI 13))) ^^^ (p_rot v1 (nI 22))) + (((v1 &&& v2) ^^^ (v1 &&& v3)) ^^^ (v2 &&& v3)))), (11, .int ((((v8 + (((p_rot v5 (nI 6)) ^^^ (p_rot v5 (nI 11))) ^^^ (p_rot v5 (nI 25)))) + ((v5 &&& v6) ^^^ ((v5 ^^^ (-1)) &&& v7))) + (st_K t)) + ((p_w f) t))), (0, .ref o), (1, .ref q), (2, .int v1), (3, .int v2), (10, .int (nI t))]) hx hb dX1_mixInto_170 hl (by decide) rfl (fun ls hl => ?_)
      refine lv_iload_n hx hb dX1_mixInto_172 rfl (lv_at hl 10 rfl) ?_
      refine lv_istore_n (lv' := [(3, .int v1), (4, .int v2), (5, .int v3), (6, .int (v4 + ((((v8 + (((p_rot v5 (nI 6)) ^^^ (p_rot v5 (nI 11))) ^^^ (p_rot v5 (nI 25)))) + ((v5 &&& v6) ^^^ ((v5 ^^^ (-1)) &&& v7))) + (st_K t)) + ((p_w f) t)))), (7, .int v5), (8, .int v6), (9, .int v7), (12, .int ((((p_rot v1 (nI 2)) ^^^ (p_rot v1 (nI 13))) ^^^ (p_rot v1 (nI 22))) + (((v1 &&& v2) ^^^ (v1 &&& v3)) ^^^ (v2 &&& v3)))), (11, .int ((((v8 + (((p_rot v5 (nI 6)) ^^^ (p_rot v5 (nI 11))) ^^^ (p_rot v5 (nI 25)))) + ((v5 &&& v6) ^^^ ((v5 ^^^ (-1)) &&& v7))) + (st_K t)) + ((p_w f) t))), (0, .ref o), (1, .ref q), (2, .int v1), (10, .int (nI t))]) hx hb dX1_mixInto_173 rfl hl (by decide) rfl (fun ls hl => ?_)
      refine lv_iload hx hb dX1_mixInto_174 (lv_at hl 8 rfl) ?_
      refine lv_iload hx hb dX1_mixInto_176 (lv_at hl 7 rfl) ?_
      refine lv_iadd hx hb dX1_mixInto_178 ?_
      refine lv_istore_n (lv' := [(2, .int (((((v8 + (((p_rot v5 (nI 6)) ^^^ (p_rot v5 (nI 11))) ^^^ (p_rot v5 (nI 25)))) + ((v5 &&& v6) ^^^ ((v5 ^^^ (-1)) &&& v7))) + (st_K t)) + ((p_w f) t)) + ((((p_rot v1 (nI 2)) ^^^ (p_rot v1 (nI 13))) ^^^ (p_rot v1 (nI 22))) + (((v1 &&& v2) ^^^ (v1 &&& v3)) ^^^ (v2 &&& v3))))), (3, .int v1), (4, .int v2), (5, .int v3), (6, .int (v4 + ((((v8 + (((p_rot v5 (nI 6)) ^^^ (p_rot v5 (nI 11))) ^^^ (p_rot v5 (nI 25)))) + ((v5 &&& v6) ^^^ ((v5 ^^^ (-1)) &&& v7))) + (st_K t)) + ((p_w f) t)))), (7, .int v5), (8, .int v6), (9, .int v7), (12, .int ((((p_rot v1 (nI 2)) ^^^ (p_rot v1 (nI 13))) ^^^ (p_rot v1 (nI 22))) + (((v1 &&& v2) ^^^ (v1 &&& v3)) ^^^ (v2 &&& v3)))), (11, .int ((((v8 + (((p_rot v5 (nI 6)) ^^^ (p_rot v5 (nI 11))) ^^^ (p_rot v5 (nI 25)))) + ((v5 &&& v6) ^^^ ((v5 ^^^ (-1)) &&& v7))) + (st_K t)) + ((p_w f) t))), (0, .ref o), (1, .ref q), (10, .int (nI t))]) hx hb dX1_mixInto_179 rfl hl (by decide) rfl (fun ls hl => ?_)
      refine lv_iinc (v := nI (t + 1)) (lv' := [(10, .int (nI (t + 1))), (2, .int (((((v8 + (((p_rot v5 (nI 6)) ^^^ (p_rot v5 (nI 11))) ^^^ (p_rot v5 (nI 25)))) + ((v5 &&& v6) ^^^ ((v5 ^^^ (-1)) &&& v7))) + (st_K t)) + ((p_w f) t)) + ((((p_rot v1 (nI 2)) ^^^ (p_rot v1 (nI 13))) ^^^ (p_rot v1 (nI 22))) + (((v1 &&& v2) ^^^ (v1 &&& v3)) ^^^ (v2 &&& v3))))), (3, .int v1), (4, .int v2), (5, .int v3), (6, .int (v4 + ((((v8 + (((p_rot v5 (nI 6)) ^^^ (p_rot v5 (nI 11))) ^^^ (p_rot v5 (nI 25)))) + ((v5 &&& v6) ^^^ ((v5 ^^^ (-1)) &&& v7))) + (st_K t)) + ((p_w f) t)))), (7, .int v5), (8, .int v6), (9, .int v7), (12, .int ((((p_rot v1 (nI 2)) ^^^ (p_rot v1 (nI 13))) ^^^ (p_rot v1 (nI 22))) + (((v1 &&& v2) ^^^ (v1 &&& v3)) ^^^ (v2 &&& v3)))), (11, .int ((((v8 + (((p_rot v5 (nI 6)) ^^^ (p_rot v5 (nI 11))) ^^^ (p_rot v5 (nI 25)))) + ((v5 &&& v6) ^^^ ((v5 ^^^ (-1)) &&& v7))) + (st_K t)) + ((p_w f) t))), (0, .ref o), (1, .ref q)]) hx hb dX1_mixInto_180 hl (k := 12) rfl (inc_N t 1) (by decide) rfl (fun ls hl => ?_)
      refine lv_goto (tgt := 47) hx hb dX1_mixInto_183 (by decide) ?_
      exact ih1 (t + 1) (((((v8 + (((p_rot v5 (nI 6)) ^^^ (p_rot v5 (nI 11))) ^^^ (p_rot v5 (nI 25)))) + ((v5 &&& v6) ^^^ ((v5 ^^^ (-1)) &&& v7))) + (st_K t)) + ((p_w f) t)) + ((((p_rot v1 (nI 2)) ^^^ (p_rot v1 (nI 13))) ^^^ (p_rot v1 (nI 22))) + (((v1 &&& v2) ^^^ (v1 &&& v3)) ^^^ (v2 &&& v3)))) v1 v2 v3 (v4 + ((((v8 + (((p_rot v5 (nI 6)) ^^^ (p_rot v5 (nI 11))) ^^^ (p_rot v5 (nI 25)))) + ((v5 &&& v6) ^^^ ((v5 ^^^ (-1)) &&& v7))) + (st_K t)) + ((p_w f) t))) v5 v6 v7 (by omega) (by show _ = p_rnd (st_K t) (p_w f t) (p_rs (p_w f) (p_tup g) t); rw [← hst]; rfl) (by omega) _ _ _ hP hD hS (lv_sub hl [11, 12, 1, 2, 3, 4, 5, 6, 7, 8, 0] rfl)
abbrev wHq (G : gG) (o x y z q n : Nat) (fm fh fw f : Nat → Int32) : va_W := [(o, .inr (1, [.ref x, .ref y, .ref z])), (x, .inl (G.2.2.1, 8, .inl fm)), (y, .inl (G.2.2.1, 8, .inl fh)), (z, .inl (G.2.2.1, 64, .inl fw)), (q, .inl (G.2.2.1, n, .inl f))]
set_option maxHeartbeats 4000000 in
set_option maxRecDepth 100000 in
theorem c_takeFirst (l : Launch) (G : gG) (sz : Nat) (o x y z q n k : Nat) (fm fh fw f : Nat → Int32) (hk : k + 26 ≤ n) (hn : n ≤ 65536) : MetV l yX1_takeFirst wsX1_takeFirst ({ frames := 3, cells := 0, slots := 0, locals := 76 } : Room) [.ref o, .ref q, .int (nI k)] G (wHq G o x y z q n fm fh fw f) sz (fun u : (Nat → Int32) × (Nat → Int32) => wHq G o x y z q n u.1 fh u.2 f) (fun u => ∀ j, j < 8 → u.1 j = p_h1 f k j) := by
  refine ent_v _ cX1_takeFirst 3 RX1 (by decide) rfl rfl (Nat.le_of_ble_eq_true rfl) ?_
  intro p e s m args below meth c A Q ls hx hb hml hts hown hA hK hX ret hl hP hD hS
  have hl : lv_has ls 3 [(0, .ref o), (1, .ref q), (2, .int (nI k))] := hl
  have lk9 := hts (.fieldLink RX1 9 "MinedLedger$Hasher" "middle" "[I") (by decide +kernel)
  have lk18 := hts (.fieldLink RX1 18 "MinedLedger$Hasher" "w" "[I") (by decide +kernel)
  have lk28 := hts (.fieldLink RX1 28 "MinedLedger$Hasher" "START" "[I") (by decide +kernel)
  have hiX1 : ∀ w ∈ wsX10, w ∈ wsX1_takeFirst := by decide +kernel
  refine va_gets (v := .ref G.2.1.1) hx hb hX.1 hS hown lk28 (fun _ h9 => h9) dX1_takeFirst_0 ?_
  refine lv_iconst (v := nI 0) hx hb dX1_takeFirst_3 (by decide) ?_
  refine lv_aload_n hx hb dX1_takeFirst_4 rfl (lv_at hl 0 rfl) ?_
  refine va_get (D := G.1) (ci := 1) (v := .ref x) (C := RX1) (T := TX1) (N := 3) hx hb hts hiX1 hown hK hP 0 rfl rfl 0 (by decide) lk9 (fun _ h9 => h9) rfl dX1_takeFirst_5 ?_
  refine lv_iconst (v := nI 0) hx hb dX1_takeFirst_8 (by decide) ?_
  refine lv_bipush (v := nI 8) hx hb dX1_takeFirst_9 (by decide) ?_
  refine cpt_i hx hb (by rw [hml]; exact hl.1.symm) hown (hts (.methodLink RX1 31 arraycopyName) (by decide +kernel)) (hts (.native arraycopyName) (by decide +kernel)) (hts (.static arraycopyName) (by decide +kernel)) (hts (.initialized "java/lang/System") (by decide +kernel)) hK hP hD hS hX.2.1 1 rfl 0 0 8 (by omega) (by omega) (by omega) (Nat.le_of_ble_eq_true rfl) (Nat.le_of_ble_eq_true rfl) dX1_takeFirst_11 (fun H locs hP hD hS => ?_)
  have hP : va_P G.1 vwCl (wHq G o x y z q n (va_cpy st_S fm 0 0 8) fh fw f) H := hP
  have hD : va_D A (wHq G o x y z q n (va_cpy st_S fm 0 0 8) fh fw f) := hD
  refine lv_aload_n hx hb dX1_takeFirst_14 rfl (lv_at hl 1 rfl) ?_
  refine lv_iload_n hx hb dX1_takeFirst_15 rfl (lv_at hl 2 rfl) ?_
  refine lv_aload_n hx hb dX1_takeFirst_16 rfl (lv_at hl 0 rfl) ?_
  refine va_get (D := G.1) (ci := 1) (v := .ref z) (C := RX1) (T := TX1) (N := 3) hx hb hts hiX1 hown hK hP 0 rfl rfl 2 (by decide) lk18 (fun _ h9 => h9) rfl dX1_takeFirst_17 ?_
  refine lv_iconst (v := nI 0) hx hb dX1_takeFirst_20 (by decide) ?_
  refine lv_bipush (v := nI 16) hx hb dX1_takeFirst_21 (by decide) ?_
  refine cpy_i hx hb (by rw [hml]; exact hl.1.symm) hown (hts (.methodLink RX1 31 arraycopyName) (by decide +kernel)) (hts (.native arraycopyName) (by decide +kernel)) (hts (.static arraycopyName) (by decide +kernel)) (hts (.initialized "java/lang/System") (by decide +kernel)) hK hP hD hS 4 3 rfl rfl k 0 16 (by omega) (by omega) (by omega) (Nat.le_of_ble_eq_true rfl) (Nat.le_of_ble_eq_true rfl) dX1_takeFirst_23 (fun H locs hP hD hS => ?_)
  have hP : va_P G.1 vwCl (wHq G o x y z q n (va_cpy st_S fm 0 0 8) fh (va_cpy f fw k 0 16) f) H := hP
  have hD : va_D A (wHq G o x y z q n (va_cpy st_S fm 0 0 8) fh (va_cpy f fw k 0 16) f) := hD
  refine lv_aload_n hx hb dX1_takeFirst_26 rfl (lv_at hl 0 rfl) ?_
  refine lv_aload_n hx hb dX1_takeFirst_27 rfl (lv_at hl 0 rfl) ?_
  refine va_get (D := G.1) (ci := 1) (v := .ref x) (C := RX1) (T := TX1) (N := 3) hx hb hts hiX1 hown hK hP 0 rfl rfl 0 (by decide) lk9 (fun _ h9 => h9) rfl dX1_takeFirst_28 ?_
  refine call_Vv (wr := ([(y, .inl (G.2.2.1, 8, .inl fh)), (q, .inl (G.2.2.1, n, .inl f))] : va_W)) [.ref x] [] ⟨hx, hb, hml, hown, hts⟩ hK hX hA hP hD hS (c_mixInto l G _ o x y z x (va_cpy f fw k 0 16) (va_cpy st_S fm 0 0 8)) (cwV 1 hts gX1_takeFirst_X1_mixInto rfl rfl rfl (by decide +kernel) ⟨Nat.le_of_ble_eq_true rfl, Nat.le_of_ble_eq_true rfl⟩) 1 0 rfl rfl rfl [0, 3, 1] [2, 4] rfl rfl (by decide) (by decide) (by decide) rfl hl.1 (Nat.le_of_ble_eq_true rfl) dX1_takeFirst_31 ⟨Nat.zero_le _, Nat.zero_le _⟩ (fun u H locs hw hP hD hS => ?_)
  have hP : va_P G.1 vwCl (wHq G o x y z q n (p_mix (va_cpy st_S fm 0 0 8) (va_cpy f fw k 0 16)) fh (p_w (va_cpy f fw k 0 16)) f) H := hP.sub [2, 4, 0, 3, 1] rfl
  have hD : va_D A (wHq G o x y z q n (p_mix (va_cpy st_S fm 0 0 8) (va_cpy f fw k 0 16)) fh (p_w (va_cpy f fw k 0 16)) f) := hD.sub [2, 4, 0, 3, 1] (by decide) rfl
  exact ret 34 _ _ _ (p_mix (va_cpy st_S fm 0 0 8) (va_cpy f fw k 0 16), p_w (va_cpy f fw k 0 16)) dX1_takeFirst_34 (p_mix_congr (fun j h => cpy_00 h) (fun j h => cpy_0 h)) hP hD hS
set_option maxHeartbeats 4000000 in
set_option maxRecDepth 100000 in
theorem c_takeRest (l : Launch) (G : gG) (sz : Nat) (o x y z q n k : Nat) (fm fh fw f : Nat → Int32) (hk : k + 26 ≤ n) (hn : n ≤ 65536) : MetV l yX1_takeRest wsX1_takeRest ({ frames := 3, cells := 0, slots := 0, locals := 76 } : Room) [.ref o, .ref q, .int (nI k)] G (wHq G o x y z q n fm fh fw f) sz (fun u : (Nat → Int32) × (Nat → Int32) => wHq G o x y z q n fm u.1 u.2 f) (fun u => ∀ j, j < 8 → u.1 j = p_mix fm (p_b2 f k) j) := by
  refine ent_v _ cX1_takeRest 4 RX1 (by decide) rfl rfl (Nat.le_of_ble_eq_true rfl) ?_
  intro p e s m args below meth c A Q ls hx hb hml hts hown hA hK hX ret hl hP hD hS
  have hl : lv_has ls 4 [(0, .ref o), (1, .ref q), (2, .int (nI k))] := hl
  have lk9 := hts (.fieldLink RX1 9 "MinedLedger$Hasher" "middle" "[I") (by decide +kernel)
  have lk15 := hts (.fieldLink RX1 15 "MinedLedger$Hasher" "hash" "[I") (by decide +kernel)
  have lk18 := hts (.fieldLink RX1 18 "MinedLedger$Hasher" "w" "[I") (by decide +kernel)
  have hiX1 : ∀ w ∈ wsX10, w ∈ wsX1_takeRest := by decide +kernel
  refine lv_bipush (v := nI 10) hx hb dX1_takeRest_0 (by decide) ?_
  refine lv_istore_n (lv' := [(3, .int (nI 10)), (0, .ref o), (1, .ref q), (2, .int (nI k))]) hx hb dX1_takeRest_2 rfl hl (by decide) rfl (fun ls hl => ?_)
  refine lv_aload_n hx hb dX1_takeRest_3 rfl (lv_at hl 1 rfl) ?_
  refine va_get (D := G.1) (ci := 1) (v := .ref x) (C := RX1) (T := TX1) (N := 3) hx hb hts hiX1 hown hK hP 0 rfl rfl 0 (by decide) lk9 (fun _ h9 => h9) rfl dX1_takeRest_4 ?_
  refine lv_iconst (v := nI 0) hx hb dX1_takeRest_7 (by decide) ?_
  refine lv_aload_n hx hb dX1_takeRest_8 rfl (lv_at hl 1 rfl) ?_
  refine va_get (D := G.1) (ci := 1) (v := .ref y) (C := RX1) (T := TX1) (N := 3) hx hb hts hiX1 hown hK hP 0 rfl rfl 1 (by decide) lk15 (fun _ h9 => h9) rfl dX1_takeRest_9 ?_
  refine lv_iconst (v := nI 0) hx hb dX1_takeRest_12 (by decide) ?_
  refine lv_bipush (v := nI 8) hx hb dX1_takeRest_13 (by decide) ?_
  refine cpy_i hx hb (by rw [hml]; exact hl.1.symm) hown (hts (.methodLink RX1 31 arraycopyName) (by decide +kernel)) (hts (.native arraycopyName) (by decide +kernel)) (hts (.static arraycopyName) (by decide +kernel)) (hts (.initialized "java/lang/System") (by decide +kernel)) hK hP hD hS 1 2 rfl rfl 0 0 8 (by omega) (by omega) (by omega) (Nat.le_of_ble_eq_true rfl) (Nat.le_of_ble_eq_true rfl) dX1_takeRest_15 (fun H locs hP hD hS => ?_)
  have hP : va_P G.1 vwCl (wHq G o x y z q n fm (va_cpy fm fh 0 0 8) fw f) H := hP
  have hD : va_D A (wHq G o x y z q n fm (va_cpy fm fh 0 0 8) fw f) := hD
  refine lv_aload_n hx hb dX1_takeRest_18 rfl (lv_at hl 2 rfl) ?_
  refine lv_iload_n hx hb dX1_takeRest_19 rfl (lv_at hl 3 rfl) ?_
  refine lv_bipush (v := nI 16) hx hb dX1_takeRest_20 (by decide) ?_
  refine ad_N hx hb k 16 dX1_takeRest_22 ?_
  refine lv_aload_n hx hb dX1_takeRest_23 rfl (lv_at hl 1 rfl) ?_
  refine va_get (D := G.1) (ci := 1) (v := .ref z) (C := RX1) (T := TX1) (N := 3) hx hb hts hiX1 hown hK hP 0 rfl rfl 2 (by decide) lk18 (fun _ h9 => h9) rfl dX1_takeRest_24 ?_
  refine lv_iconst (v := nI 0) hx hb dX1_takeRest_27 (by decide) ?_
  refine lv_iload_n hx hb dX1_takeRest_28 rfl (lv_at hl 0 rfl) ?_
  refine cpy_i hx hb (by rw [hml]; exact hl.1.symm) hown (hts (.methodLink RX1 31 arraycopyName) (by decide +kernel)) (hts (.native arraycopyName) (by decide +kernel)) (hts (.static arraycopyName) (by decide +kernel)) (hts (.initialized "java/lang/System") (by decide +kernel)) hK hP hD hS 4 3 rfl rfl (k + 16) 0 10 (by omega) (by omega) (by omega) (Nat.le_of_ble_eq_true rfl) (Nat.le_of_ble_eq_true rfl) dX1_takeRest_29 (fun H locs hP hD hS => ?_)
  have hP : va_P G.1 vwCl (wHq G o x y z q n fm (va_cpy fm fh 0 0 8) (va_cpy f fw (k + 16) 0 10) f) H := hP
  have hD : va_D A (wHq G o x y z q n fm (va_cpy fm fh 0 0 8) (va_cpy f fw (k + 16) 0 10) f) := hD
  refine lv_aload_n hx hb dX1_takeRest_32 rfl (lv_at hl 1 rfl) ?_
  refine va_get (D := G.1) (ci := 1) (v := .ref z) (C := RX1) (T := TX1) (N := 3) hx hb hts hiX1 hown hK hP 0 rfl rfl 2 (by decide) lk18 (fun _ h9 => h9) rfl dX1_takeRest_33 ?_
  refine lv_iload_n hx hb dX1_takeRest_36 rfl (lv_at hl 0 rfl) ?_
  refine lv_ldc (v := -2147483648) hx hb hown (hts (.constant RX1 41 (-2147483648)) (by decide +kernel)) dX1_takeRest_37 ?_
  refine wr_i hx hb hK hP hD hS 3 rfl 10 (by omega) (by omega) dX1_takeRest_39 (fun H locs hP hD hS => ?_)
  have hP : va_P G.1 vwCl (wHq G o x y z q n fm (va_cpy fm fh 0 0 8) (upd (va_cpy f fw (k + 16) 0 10) 10 (-2147483648)) f) H := hP
  have hD : va_D A (wHq G o x y z q n fm (va_cpy fm fh 0 0 8) (upd (va_cpy f fw (k + 16) 0 10) 10 (-2147483648)) f) := hD
  refine lv_aload_n hx hb dX1_takeRest_40 rfl (lv_at hl 1 rfl) ?_
  refine va_get (D := G.1) (ci := 1) (v := .ref z) (C := RX1) (T := TX1) (N := 3) hx hb hts hiX1 hown hK hP 0 rfl rfl 2 (by decide) lk18 (fun _ h9 => h9) rfl dX1_takeRest_41 ?_
  refine lv_iload_n hx hb dX1_takeRest_44 rfl (lv_at hl 0 rfl) ?_
  refine lv_iconst (v := nI 1) hx hb dX1_takeRest_45 (by decide) ?_
  refine ad_N hx hb 10 1 dX1_takeRest_46 ?_
  refine lv_bipush (v := nI 15) hx hb dX1_takeRest_47 (by decide) ?_
  refine lv_iconst (v := nI 0) hx hb dX1_takeRest_49 (by decide) ?_
  refine call_Sv (wr := ([(o, .inr (1, [.ref x, .ref y, .ref z])), (x, .inl (G.2.2.1, 8, .inl fm)), (y, .inl (G.2.2.1, 8, .inl (va_cpy fm fh 0 0 8))), (q, .inl (G.2.2.1, n, .inl f))] : va_W)) [.ref z, .int (nI (10 + 1)), .int (nI 15), .int (nI 0)] [] ⟨hx, hb, hml, hown, hts⟩ hK hX hA hP hD hS (c_fill4 l G _ z 64 (10 + 1) 15 (upd (va_cpy f fw (k + 16) 0 10) 10 (-2147483648)) (nI 0) (by omega) (by omega) (by omega)) (va_cwS 4 hts gX1_takeRest_J7_fill_fda19 rfl rfl rfl (by decide +kernel) ⟨Nat.le_of_ble_eq_true rfl, Nat.le_of_ble_eq_true rfl⟩) [3] [0, 1, 2, 4] rfl rfl (by decide) (by decide) (by decide) rfl hl.1 (Nat.le_of_ble_eq_true rfl) dX1_takeRest_50 ⟨Nat.zero_le _, Nat.zero_le _⟩ (fun u H locs hw hP hD hS => ?_)
  have hP : va_P G.1 vwCl (wHq G o x y z q n fm (va_cpy fm fh 0 0 8) (p_fill (upd (va_cpy f fw (k + 16) 0 10) 10 (-2147483648)) (10 + 1) 15 (nI 0)) f) H := hP.sub [0, 1, 2, 4, 3] rfl
  have hD : va_D A (wHq G o x y z q n fm (va_cpy fm fh 0 0 8) (p_fill (upd (va_cpy f fw (k + 16) 0 10) 10 (-2147483648)) (10 + 1) 15 (nI 0)) f) := hD.sub [0, 1, 2, 4, 3] (by decide) rfl
  refine lv_aload_n hx hb dX1_takeRest_53 rfl (lv_at hl 1 rfl) ?_
  refine va_get (D := G.1) (ci := 1) (v := .ref z) (C := RX1) (T := TX1) (N := 3) hx hb hts hiX1 hown hK hP 0 rfl rfl 2 (by decide) lk18 (fun _ h9 => h9) rfl dX1_takeRest_54 ?_
  refine lv_bipush (v := nI 15) hx hb dX1_takeRest_57 (by decide) ?_
  refine lv_sipush (v := nI 832) hx hb dX1_takeRest_59 (by decide) ?_
  refine wr_i hx hb hK hP hD hS 3 rfl 15 (by omega) (by omega) dX1_takeRest_62 (fun H locs hP hD hS => ?_)
  have hP : va_P G.1 vwCl (wHq G o x y z q n fm (va_cpy fm fh 0 0 8) (upd (p_fill (upd (va_cpy f fw (k + 16) 0 10) 10 (-2147483648)) (10 + 1) 15 (nI 0)) 15 (nI 832)) f) H := hP
  have hD : va_D A (wHq G o x y z q n fm (va_cpy fm fh 0 0 8) (upd (p_fill (upd (va_cpy f fw (k + 16) 0 10) 10 (-2147483648)) (10 + 1) 15 (nI 0)) 15 (nI 832)) f) := hD
  refine lv_aload_n hx hb dX1_takeRest_63 rfl (lv_at hl 1 rfl) ?_
  refine lv_aload_n hx hb dX1_takeRest_64 rfl (lv_at hl 1 rfl) ?_
  refine va_get (D := G.1) (ci := 1) (v := .ref y) (C := RX1) (T := TX1) (N := 3) hx hb hts hiX1 hown hK hP 0 rfl rfl 1 (by decide) lk15 (fun _ h9 => h9) rfl dX1_takeRest_65 ?_
  refine call_Vv (wr := ([(x, .inl (G.2.2.1, 8, .inl fm)), (q, .inl (G.2.2.1, n, .inl f))] : va_W)) [.ref y] [] ⟨hx, hb, hml, hown, hts⟩ hK hX hA hP hD hS (c_mixInto l G _ o x y z y (upd (p_fill (upd (va_cpy f fw (k + 16) 0 10) 10 (-2147483648)) (10 + 1) 15 (nI 0)) 15 (nI 832)) (va_cpy fm fh 0 0 8)) (cwV 1 hts gX1_takeRest_X1_mixInto rfl rfl rfl (by decide +kernel) ⟨Nat.le_of_ble_eq_true rfl, Nat.le_of_ble_eq_true rfl⟩) 1 0 rfl rfl rfl [0, 3, 2] [1, 4] rfl rfl (by decide) (by decide) (by decide) rfl hl.1 (Nat.le_of_ble_eq_true rfl) dX1_takeRest_68 ⟨Nat.zero_le _, Nat.zero_le _⟩ (fun u H locs hw hP hD hS => ?_)
  have hP : va_P G.1 vwCl (wHq G o x y z q n fm (p_mix (va_cpy fm fh 0 0 8) (upd (p_fill (upd (va_cpy f fw (k + 16) 0 10) 10 (-2147483648)) (10 + 1) 15 (nI 0)) 15 (nI 832))) (p_w (upd (p_fill (upd (va_cpy f fw (k + 16) 0 10) 10 (-2147483648)) (10 + 1) 15 (nI 0)) 15 (nI 832))) f) H := hP.sub [2, 0, 4, 3, 1] rfl
  have hD : va_D A (wHq G o x y z q n fm (p_mix (va_cpy fm fh 0 0 8) (upd (p_fill (upd (va_cpy f fw (k + 16) 0 10) 10 (-2147483648)) (10 + 1) 15 (nI 0)) 15 (nI 832))) (p_w (upd (p_fill (upd (va_cpy f fw (k + 16) 0 10) 10 (-2147483648)) (10 + 1) 15 (nI 0)) 15 (nI 832))) f) := hD.sub [2, 0, 4, 3, 1] (by decide) rfl
  exact ret 71 _ _ _ (p_mix (va_cpy fm fh 0 0 8) (upd (p_fill (upd (va_cpy f fw (k + 16) 0 10) 10 (-2147483648)) (10 + 1) 15 (nI 0)) 15 (nI 832)), p_w (upd (p_fill (upd (va_cpy f fw (k + 16) 0 10) 10 (-2147483648)) (10 + 1) 15 (nI 0)) 15 (nI 832))) dX1_takeRest_71 (p_mix_congr (fun j h => cpy_00 h) (p_b2_ok f fw k)) hP hD hS
set_option maxHeartbeats 4000000 in
set_option maxRecDepth 100000 in
theorem c_takeAll (l : Launch) (G : gG) (sz : Nat) (o x y z q n k : Nat) (fm fh fw f : Nat → Int32) (hk : k + 26 ≤ n) (hn : n ≤ 65536) : MetV l yX1_takeAll wsX1_takeAll ({ frames := 4, cells := 0, slots := 0, locals := 99 } : Room) [.ref o, .ref q, .int (nI k)] G (wHq G o x y z q n fm fh fw f) sz (fun u : (Nat → Int32) × (Nat → Int32) × (Nat → Int32) => wHq G o x y z q n u.1 u.2.1 u.2.2 f) (fun u => ∀ j, j < 8 → u.2.1 j = p_hash f k j) := by
  refine ent_v _ cX1_takeAll 3 RX1 (by decide) rfl rfl (Nat.le_of_ble_eq_true rfl) ?_
  intro p e s m args below meth c A Q ls hx hb hml hts hown hA hK hX ret hl hP hD hS
  have hl : lv_has ls 3 [(0, .ref o), (1, .ref q), (2, .int (nI k))] := hl
  refine lv_aload_n hx hb dX1_takeAll_0 rfl (lv_at hl 0 rfl) ?_
  refine lv_aload_n hx hb dX1_takeAll_1 rfl (lv_at hl 1 rfl) ?_
  refine lv_iload_n hx hb dX1_takeAll_2 rfl (lv_at hl 2 rfl) ?_
  refine call_Vv (wr := ([] : va_W)) [.ref q, .int (nI k)] [] ⟨hx, hb, hml, hown, hts⟩ hK hX hA hP hD hS (c_takeFirst l G _ o x y z q n k fm fh fw f (by omega) (by omega)) (cwV 2 hts gX1_takeAll_X1_takeFirst rfl rfl rfl (by decide +kernel) ⟨Nat.le_of_ble_eq_true rfl, Nat.le_of_ble_eq_true rfl⟩) 1 0 rfl rfl rfl [0, 1, 2, 3, 4] [] rfl rfl (by decide) (by decide) (by decide) rfl hl.1 (Nat.le_of_ble_eq_true rfl) dX1_takeAll_3 ⟨Nat.zero_le _, Nat.zero_le _⟩ (fun u H locs hw hP hD hS => ?_)
  obtain ⟨mu_2, wu_2⟩ := u
  have hu_2 : ∀ j, j < 8 → mu_2 j = p_h1 f k j := hw
  have hP : va_P G.1 vwCl (wHq G o x y z q n mu_2 fh wu_2 f) H := hP
  have hD : va_D A (wHq G o x y z q n mu_2 fh wu_2 f) := hD
  refine lv_aload_n hx hb dX1_takeAll_6 rfl (lv_at hl 0 rfl) ?_
  refine lv_aload_n hx hb dX1_takeAll_7 rfl (lv_at hl 1 rfl) ?_
  refine lv_iload_n hx hb dX1_takeAll_8 rfl (lv_at hl 2 rfl) ?_
  refine call_Vv (wr := ([] : va_W)) [.ref q, .int (nI k)] [] ⟨hx, hb, hml, hown, hts⟩ hK hX hA hP hD hS (c_takeRest l G _ o x y z q n k mu_2 fh wu_2 f (by omega) (by omega)) (cwV 2 hts gX1_takeAll_X1_takeRest rfl rfl rfl (by decide +kernel) ⟨Nat.le_of_ble_eq_true rfl, Nat.le_of_ble_eq_true rfl⟩) 1 0 rfl rfl rfl [0, 1, 2, 3, 4] [] rfl rfl (by decide) (by decide) (by decide) rfl hl.1 (Nat.le_of_ble_eq_true rfl) dX1_takeAll_9 ⟨Nat.zero_le _, Nat.zero_le _⟩ (fun u H locs hw hP hD hS => ?_)
  obtain ⟨yu_4, wu_4⟩ := u
  have hu_4 : ∀ j, j < 8 → yu_4 j = p_mix mu_2 (p_b2 f k) j := hw
  have hP : va_P G.1 vwCl (wHq G o x y z q n mu_2 yu_4 wu_4 f) H := hP
  have hD : va_D A (wHq G o x y z q n mu_2 yu_4 wu_4 f) := hD
  exact ret 12 _ _ _ (mu_2, yu_4, wu_4) dX1_takeAll_12 (fun j h => (hu_4 j h).trans (p_mix_congr hu_2 (fun _ _ => rfl) j h)) hP hD hS
abbrev wIs (G : gG) (o x y z q n : Nat) (fh f : Nat → Int32) : va_W := [(o, .inr (1, [.ref x, .ref y, .ref z])), (y, .inl (G.2.2.1, 8, .inl fh)), (q, .inl (G.2.2.1, n, .inl f))]
set_option maxHeartbeats 4000000 in
set_option maxRecDepth 100000 in
theorem c_isAt (l : Launch) (G : gG) (sz : Nat) (o x y z q n k : Nat) (fh f : Nat → Int32) (hk : k + 8 ≤ n) (hn : n ≤ 65536) : MetI l yX1_isAt wsX1_isAt ({ frames := 0, cells := 0, slots := 0, locals := 0 } : Room) [.ref o, .ref q, .int (nI k)] G (wIs G o x y z q n fh f) sz (fun _ : Unit => wIs G o x y z q n fh f) (fun r _ => r = bI (allN (p_is fh f k) 8)) := by
  refine ent_z _ cX1_isAt 4 RX1 (by decide) rfl rfl (Nat.le_of_ble_eq_true rfl) ?_
  intro p e s m args below meth c A Q ls hx hb hml hts hown hA hK hX ret hl hP hD hS
  have hl : lv_has ls 4 [(0, .ref o), (1, .ref q), (2, .int (nI k))] := hl
  have lk15 := hts (.fieldLink RX1 15 "MinedLedger$Hasher" "hash" "[I") (by decide +kernel)
  have hiX1 : ∀ w ∈ wsX10, w ∈ wsX1_isAt := by decide +kernel
  refine lv_iconst (v := nI 0) hx hb dX1_isAt_0 (by decide) ?_
  refine lv_istore_n (lv' := [(3, .int (nI 0)), (0, .ref o), (1, .ref q), (2, .int (nI k))]) hx hb dX1_isAt_1 rfl hl (by decide) rfl (fun ls hl => ?_)
  suffices hloop1 : ∀ (fu1 : Nat) (i : Nat), (i ≤ 8) → (∀ j, j < i → p_is fh f k j = true) → 8 - i < fu1 → ∀ (H : Heap) (locs : List Loc) (ls : Array Slot), va_P G.1 vwCl (wIs G o x y z q n fh f) H → va_D A (wIs G o x y z q n fh f) → va_S A s.heap H locs → lv_has ls 4 [(0, .ref o), (1, .ref q), (2, .int (nI k)), (3, .int (nI i))] → W p l e ({ frames := 0, cells := 0, slots := 0, locals := 0 } : Room) s m args below meth c H locs 0 0 Q (F0 m 2 ls []) from hloop1 _ 0 (Nat.zero_le _) (fun j h => absurd h (Nat.not_lt_zero j)) (Nat.lt_succ_self _) _ _ _ hP hD hS (lv_sub hl [1, 2, 3, 0] rfl)
  clear hP hD hS hl
  intro fu1
  induction fu1 with
  | zero => intro i hi hm hfu; exact absurd hfu (Nat.not_lt_zero _)
  | succ fu1 ih1 =>
    intro i hi hm hfu1 H locs ls hP hD hS hl
    refine lv_iload_n hx hb dX1_isAt_2 rfl (lv_at hl 3 rfl) ?_
    refine lv_bipush (v := nI 8) hx hb dX1_isAt_3 (by decide) ?_
    refine cmp_ge hx hb i 8 30 (by omega) (by omega) dX1_isAt_5 (by decide) (fun c5 => ?_) (fun c5 => ?_)
    · have e30 : i = 8 := by omega
      subst e30
      refine lv_iconst (v := nI 1) hx hb dX1_isAt_30 (by decide) ?_
      exact ret 31 _ _ _ (nI 1) () dX1_isAt_31 (by first | exact Or.inl rfl | exact Or.inr rfl) (al_T hm) hP hD hS
    · refine lv_aload_n hx hb dX1_isAt_8 rfl (lv_at hl 1 rfl) ?_
      refine lv_iload_n hx hb dX1_isAt_9 rfl (lv_at hl 2 rfl) ?_
      refine lv_iload_n hx hb dX1_isAt_10 rfl (lv_at hl 3 rfl) ?_
      refine ad_N hx hb k i dX1_isAt_11 ?_
      refine rd_i hx hb hK hP 2 rfl (k + i) (by omega) (by omega) dX1_isAt_12 ?_
      refine lv_aload_n hx hb dX1_isAt_13 rfl (lv_at hl 0 rfl) ?_
      refine va_get (D := G.1) (ci := 1) (v := .ref y) (C := RX1) (T := TX1) (N := 3) hx hb hts hiX1 hown hK hP 0 rfl rfl 1 (by decide) lk15 (fun _ h9 => h9) rfl dX1_isAt_14 ?_
      refine lv_iload_n hx hb dX1_isAt_17 rfl (lv_at hl 3 rfl) ?_
      refine rd_i hx hb hK hP 1 rfl i (by omega) (by omega) dX1_isAt_18 ?_
      refine lv_icmp_eq (tgt := 24) hx hb dX1_isAt_19 (by decide) (fun c19 => ?_) (fun c19 => ?_)
      · refine lv_iinc (v := nI (i + 1)) (lv' := [(3, .int (nI (i + 1))), (0, .ref o), (1, .ref q), (2, .int (nI k))]) hx hb dX1_isAt_24 hl (k := 3) rfl (inc_N i 1) (by decide) rfl (fun ls hl => ?_)
        refine lv_goto (tgt := 2) hx hb dX1_isAt_27 (by decide) ?_
        exact ih1 (i + 1) (by omega) (lt_s hm (decide_eq_true c19)) (by omega) _ _ _ hP hD hS (lv_sub hl [1, 2, 3, 0] rfl)
      · refine lv_iconst (v := nI 0) hx hb dX1_isAt_22 (by decide) ?_
        exact ret 23 _ _ _ (nI 0) () dX1_isAt_23 (by first | exact Or.inl rfl | exact Or.inr rfl) (al_F (i := i) (by omega) (fun z => c19 (of_decide_eq_true z))) hP hD hS
set_option maxHeartbeats 4000000 in
set_option maxRecDepth 100000 in
theorem c_copyTo (l : Launch) (G : gG) (sz : Nat) (o x y z q n k : Nat) (fh f : Nat → Int32) (hk : k + 8 ≤ n) (hn : n ≤ 65536) : MetV l yX1_copyTo wsX1_copyTo ({ frames := 1, cells := 0, slots := 0, locals := 40 } : Room) [.ref o, .ref q, .int (nI k)] G (wIs G o x y z q n fh f) sz (fun _ : Unit => wIs G o x y z q n fh (va_cpy fh f 0 k 8)) (fun _ => True) := by
  refine ent_v _ cX1_copyTo 3 RX1 (by decide) rfl rfl (Nat.le_of_ble_eq_true rfl) ?_
  intro p e s m args below meth c A Q ls hx hb hml hts hown hA hK hX ret hl hP hD hS
  have hl : lv_has ls 3 [(0, .ref o), (1, .ref q), (2, .int (nI k))] := hl
  have lk15 := hts (.fieldLink RX1 15 "MinedLedger$Hasher" "hash" "[I") (by decide +kernel)
  have hiX1 : ∀ w ∈ wsX10, w ∈ wsX1_copyTo := by decide +kernel
  refine lv_aload_n hx hb dX1_copyTo_0 rfl (lv_at hl 0 rfl) ?_
  refine va_get (D := G.1) (ci := 1) (v := .ref y) (C := RX1) (T := TX1) (N := 3) hx hb hts hiX1 hown hK hP 0 rfl rfl 1 (by decide) lk15 (fun _ h9 => h9) rfl dX1_copyTo_1 ?_
  refine lv_iconst (v := nI 0) hx hb dX1_copyTo_4 (by decide) ?_
  refine lv_aload_n hx hb dX1_copyTo_5 rfl (lv_at hl 1 rfl) ?_
  refine lv_iload_n hx hb dX1_copyTo_6 rfl (lv_at hl 2 rfl) ?_
  refine lv_bipush (v := nI 8) hx hb dX1_copyTo_7 (by decide) ?_
  refine cpy_i hx hb (by rw [hml]; exact hl.1.symm) hown (hts (.methodLink RX1 31 arraycopyName) (by decide +kernel)) (hts (.native arraycopyName) (by decide +kernel)) (hts (.static arraycopyName) (by decide +kernel)) (hts (.initialized "java/lang/System") (by decide +kernel)) hK hP hD hS 1 2 rfl rfl 0 k 8 (by omega) (by omega) (by omega) (Nat.le_of_ble_eq_true rfl) (Nat.le_of_ble_eq_true rfl) dX1_copyTo_9 (fun H locs hP hD hS => ?_)
  have hP : va_P G.1 vwCl (wIs G o x y z q n fh (va_cpy fh f 0 k 8)) H := hP
  have hD : va_D A (wIs G o x y z q n fh (va_cpy fh f 0 k 8)) := hD
  exact ret 12 _ _ _ () dX1_copyTo_12 (trivial) hP hD hS
set_option maxHeartbeats 4000000 in
set_option maxRecDepth 100000 in
theorem c_nlz (l : Launch) (G : gG) (sz : Nat) (x : Int32)  : MetI l yJ6_numberOfLeadingZeros_0f7a4 wsJ6_numberOfLeadingZeros_0f7a4 ({ frames := 0, cells := 0, slots := 0, locals := 0 } : Room) [.int x] G (([] : va_W)) sz (fun _ : Unit => []) (fun r _ => r = nI (p_lz x)) := by
  refine ent_i _ cJ6_numberOfLeadingZeros_0f7a4 2 RJ6 (by decide) rfl rfl (Nat.le_of_ble_eq_true rfl) ?_
  intro p e s m args below meth c A Q ls hx hb hml hts hown hA hK hX ret hl hP hD hS
  have hl : lv_has ls 2 [(0, .int x)] := hl
  refine lv_iload_n hx hb dJ6_numberOfLeadingZeros_0f7a4_0 rfl (lv_at hl 0 rfl) ?_
  refine ifz_gt hx hb x 15 dJ6_numberOfLeadingZeros_0f7a4_1 (by decide) (fun c1 => ?_) (fun c1 => ?_)
  · obtain ⟨v, hv, rfl⟩ := of_nn (Int.le_of_lt c1)
    have hv0 : 0 < v := by rw [tI_N hv] at c1; omega
    have hl : lv_has ls 2 [(0, .int (nI v))] := hl
    refine lv_bipush (v := nI 31) hx hb dJ6_numberOfLeadingZeros_0f7a4_15 (by decide) ?_
    refine lv_istore_n (lv' := [(1, .int (nI 31)), (0, .int (nI v))]) hx hb dJ6_numberOfLeadingZeros_0f7a4_17 rfl hl (by decide) rfl (fun ls hl => ?_)
    refine lv_iload_n hx hb dJ6_numberOfLeadingZeros_0f7a4_18 rfl (lv_at hl 1 rfl) ?_
    refine lv_ldcw (v := 65536) hx hb hown (hts (.constant RJ6 264 (65536)) (by decide +kernel)) dJ6_numberOfLeadingZeros_0f7a4_19 ?_
    refine top_i (nI 65536) (by decide) ?_
    refine cmp_lt hx hb v 65536 33 (by omega) (by omega) dJ6_numberOfLeadingZeros_0f7a4_22 (by decide) (fun c22 => ?_) (fun c22 => ?_)
    · refine lv_iload_n hx hb dJ6_numberOfLeadingZeros_0f7a4_33 rfl (lv_at hl 1 rfl) ?_
      refine lv_sipush (v := nI 256) hx hb dJ6_numberOfLeadingZeros_0f7a4_34 (by decide) ?_
      refine cmp_lt hx hb v 256 48 (by omega) (by omega) dJ6_numberOfLeadingZeros_0f7a4_37 (by decide) (fun c37 => ?_) (fun c37 => ?_)
      · refine lv_iload_n hx hb dJ6_numberOfLeadingZeros_0f7a4_48 rfl (lv_at hl 1 rfl) ?_
        refine lv_bipush (v := nI 16) hx hb dJ6_numberOfLeadingZeros_0f7a4_49 (by decide) ?_
        refine cmp_lt hx hb v 16 61 (by omega) (by omega) dJ6_numberOfLeadingZeros_0f7a4_51 (by decide) (fun c51 => ?_) (fun c51 => ?_)
        · refine lv_iload_n hx hb dJ6_numberOfLeadingZeros_0f7a4_61 rfl (lv_at hl 1 rfl) ?_
          refine lv_iconst (v := nI 4) hx hb dJ6_numberOfLeadingZeros_0f7a4_62 (by decide) ?_
          refine cmp_lt hx hb v 4 73 (by omega) (by omega) dJ6_numberOfLeadingZeros_0f7a4_63 (by decide) (fun c63 => ?_) (fun c63 => ?_)
          · refine lv_iload_n hx hb dJ6_numberOfLeadingZeros_0f7a4_73 rfl (lv_at hl 0 rfl) ?_
            refine lv_iload_n hx hb dJ6_numberOfLeadingZeros_0f7a4_74 rfl (lv_at hl 1 rfl) ?_
            refine lv_iconst (v := nI 1) hx hb dJ6_numberOfLeadingZeros_0f7a4_75 (by decide) ?_
            refine lv_iushr (v := (p_ush (nI v) (nI 1))) hx hb dJ6_numberOfLeadingZeros_0f7a4_76 rfl ?_
            refine top_i (nI (v / 2)) (pk_ushrN (by omega) (nI 1) 1 (by decide)) ?_
            refine su_N hx hb 31 (v / 2) (by omega) dJ6_numberOfLeadingZeros_0f7a4_77 ?_
            exact ret 78 _ _ _ (nI (31 - (v / 2))) () dJ6_numberOfLeadingZeros_0f7a4_78 (lz_leaf (k := 0) (by omega) v (by omega) (by omega) (by omega)) hP hD hS
          · refine lv_iinc (v := nI (31 - 2)) (lv' := [(1, .int (nI (31 - 2))), (0, .int (nI v))]) hx hb dJ6_numberOfLeadingZeros_0f7a4_66 hl (k := 0) rfl (dec_N 31 2 (by omega)) (by decide) rfl (fun ls hl => ?_)
            refine lv_iload_n hx hb dJ6_numberOfLeadingZeros_0f7a4_69 rfl (lv_at hl 1 rfl) ?_
            refine lv_iconst (v := nI 2) hx hb dJ6_numberOfLeadingZeros_0f7a4_70 (by decide) ?_
            refine lv_iushr (v := (p_ush (nI v) (nI 2))) hx hb dJ6_numberOfLeadingZeros_0f7a4_71 rfl ?_
            refine top_i (nI (v / 4)) (pk_ushrN (by omega) (nI 2) 2 (by decide)) ?_
            refine lv_istore_n (lv' := [(0, .int (nI (v / 4))), (1, .int (nI (31 - 2)))]) hx hb dJ6_numberOfLeadingZeros_0f7a4_72 rfl hl (by decide) rfl (fun ls hl => ?_)
            refine lv_iload_n hx hb dJ6_numberOfLeadingZeros_0f7a4_73 rfl (lv_at hl 1 rfl) ?_
            refine lv_iload_n hx hb dJ6_numberOfLeadingZeros_0f7a4_74 rfl (lv_at hl 0 rfl) ?_
            refine lv_iconst (v := nI 1) hx hb dJ6_numberOfLeadingZeros_0f7a4_75 (by decide) ?_
            refine lv_iushr (v := (p_ush (nI (v / 4)) (nI 1))) hx hb dJ6_numberOfLeadingZeros_0f7a4_76 rfl ?_
            refine top_i (nI ((v / 4) / 2)) (pk_ushrN (by omega) (nI 1) 1 (by decide)) ?_
            refine su_N hx hb (31 - 2) ((v / 4) / 2) (by omega) dJ6_numberOfLeadingZeros_0f7a4_77 ?_
            exact ret 78 _ _ _ (nI ((31 - 2) - ((v / 4) / 2))) () dJ6_numberOfLeadingZeros_0f7a4_78 (lz_leaf (k := 2) (by omega) (v / 4) (by omega) (by omega) (by omega)) hP hD hS
        · refine lv_iinc (v := nI (31 - 4)) (lv' := [(1, .int (nI (31 - 4))), (0, .int (nI v))]) hx hb dJ6_numberOfLeadingZeros_0f7a4_54 hl (k := 0) rfl (dec_N 31 4 (by omega)) (by decide) rfl (fun ls hl => ?_)
          refine lv_iload_n hx hb dJ6_numberOfLeadingZeros_0f7a4_57 rfl (lv_at hl 1 rfl) ?_
          refine lv_iconst (v := nI 4) hx hb dJ6_numberOfLeadingZeros_0f7a4_58 (by decide) ?_
          refine lv_iushr (v := (p_ush (nI v) (nI 4))) hx hb dJ6_numberOfLeadingZeros_0f7a4_59 rfl ?_
          refine top_i (nI (v / 16)) (pk_ushrN (by omega) (nI 4) 4 (by decide)) ?_
          refine lv_istore_n (lv' := [(0, .int (nI (v / 16))), (1, .int (nI (31 - 4)))]) hx hb dJ6_numberOfLeadingZeros_0f7a4_60 rfl hl (by decide) rfl (fun ls hl => ?_)
          refine lv_iload_n hx hb dJ6_numberOfLeadingZeros_0f7a4_61 rfl (lv_at hl 0 rfl) ?_
          refine lv_iconst (v := nI 4) hx hb dJ6_numberOfLeadingZeros_0f7a4_62 (by decide) ?_
          refine cmp_lt hx hb (v / 16) 4 73 (by omega) (by omega) dJ6_numberOfLeadingZeros_0f7a4_63 (by decide) (fun c63 => ?_) (fun c63 => ?_)
          · refine lv_iload_n hx hb dJ6_numberOfLeadingZeros_0f7a4_73 rfl (lv_at hl 1 rfl) ?_
            refine lv_iload_n hx hb dJ6_numberOfLeadingZeros_0f7a4_74 rfl (lv_at hl 0 rfl) ?_
            refine lv_iconst (v := nI 1) hx hb dJ6_numberOfLeadingZeros_0f7a4_75 (by decide) ?_
            refine lv_iushr (v := (p_ush (nI (v / 16)) (nI 1))) hx hb dJ6_numberOfLeadingZeros_0f7a4_76 rfl ?_
            refine top_i (nI ((v / 16) / 2)) (pk_ushrN (by omega) (nI 1) 1 (by decide)) ?_
            refine su_N hx hb (31 - 4) ((v / 16) / 2) (by omega) dJ6_numberOfLeadingZeros_0f7a4_77 ?_
            exact ret 78 _ _ _ (nI ((31 - 4) - ((v / 16) / 2))) () dJ6_numberOfLeadingZeros_0f7a4_78 (lz_leaf (k := 4) (by omega) (v / 16) (by omega) (by omega) (by omega)) hP hD hS
          · refine lv_iinc (v := nI (31 - 4 - 2)) (lv' := [(1, .int (nI (31 - 4 - 2))), (0, .int (nI (v / 16)))]) hx hb dJ6_numberOfLeadingZeros_0f7a4_66 hl (k := 1) rfl (dec_N (31 - 4) 2 (by omega)) (by decide) rfl (fun ls hl => ?_)
            refine lv_iload_n hx hb dJ6_numberOfLeadingZeros_0f7a4_69 rfl (lv_at hl 1 rfl) ?_
            refine lv_iconst (v := nI 2) hx hb dJ6_numberOfLeadingZeros_0f7a4_70 (by decide) ?_
            refine lv_iushr (v := (p_ush (nI (v / 16)) (nI 2))) hx hb dJ6_numberOfLeadingZeros_0f7a4_71 rfl ?_
            refine top_i (nI ((v / 16) / 4)) (pk_ushrN (by omega) (nI 2) 2 (by decide)) ?_
            refine lv_istore_n (lv' := [(0, .int (nI ((v / 16) / 4))), (1, .int (nI (31 - 4 - 2)))]) hx hb dJ6_numberOfLeadingZeros_0f7a4_72 rfl hl (by decide) rfl (fun ls hl => ?_)
            refine lv_iload_n hx hb dJ6_numberOfLeadingZeros_0f7a4_73 rfl (lv_at hl 1 rfl) ?_
            refine lv_iload_n hx hb dJ6_numberOfLeadingZeros_0f7a4_74 rfl (lv_at hl 0 rfl) ?_
            refine lv_iconst (v := nI 1) hx hb dJ6_numberOfLeadingZeros_0f7a4_75 (by decide) ?_
            refine lv_iushr (v := (p_ush (nI ((v / 16) / 4)) (nI 1))) hx hb dJ6_numberOfLeadingZeros_0f7a4_76 rfl ?_
            refine top_i (nI (((v / 16) / 4) / 2)) (pk_ushrN (by omega) (nI 1) 1 (by decide)) ?_
            refine su_N hx hb (31 - 4 - 2) (((v / 16) / 4) / 2) (by omega) dJ6_numberOfLeadingZeros_0f7a4_77 ?_
            exact ret 78 _ _ _ (nI ((31 - 4 - 2) - (((v / 16) / 4) / 2))) () dJ6_numberOfLeadingZeros_0f7a4_78 (lz_leaf (k := 6) (by omega) ((v / 16) / 4) (by omega) (by omega) (by omega)) hP hD hS
      · refine lv_iinc (v := nI (31 - 8)) (lv' := [(1, .int (nI (31 - 8))), (0, .int (nI v))]) hx hb dJ6_numberOfLeadingZeros_0f7a4_40 hl (k := 0) rfl (dec_N 31 8 (by omega)) (by decide) rfl (fun ls hl => ?_)
        refine lv_iload_n hx hb dJ6_numberOfLeadingZeros_0f7a4_43 rfl (lv_at hl 1 rfl) ?_
        refine lv_bipush (v := nI 8) hx hb dJ6_numberOfLeadingZeros_0f7a4_44 (by decide) ?_
        refine lv_iushr (v := (p_ush (nI v) (nI 8))) hx hb dJ6_numberOfLeadingZeros_0f7a4_46 rfl ?_
        refine top_i (nI (v / 256)) (pk_ushrN (by omega) (nI 8) 8 (by decide)) ?_
        refine lv_istore_n (lv' := [(0, .int (nI (v / 256))), (1, .int (nI (31 - 8)))]) hx hb dJ6_numberOfLeadingZeros_0f7a4_47 rfl hl (by decide) rfl (fun ls hl => ?_)
        refine lv_iload_n hx hb dJ6_numberOfLeadingZeros_0f7a4_48 rfl (lv_at hl 0 rfl) ?_
        refine lv_bipush (v := nI 16) hx hb dJ6_numberOfLeadingZeros_0f7a4_49 (by decide) ?_
        refine cmp_lt hx hb (v / 256) 16 61 (by omega) (by omega) dJ6_numberOfLeadingZeros_0f7a4_51 (by decide) (fun c51 => ?_) (fun c51 => ?_)
        · refine lv_iload_n hx hb dJ6_numberOfLeadingZeros_0f7a4_61 rfl (lv_at hl 0 rfl) ?_
          refine lv_iconst (v := nI 4) hx hb dJ6_numberOfLeadingZeros_0f7a4_62 (by decide) ?_
          refine cmp_lt hx hb (v / 256) 4 73 (by omega) (by omega) dJ6_numberOfLeadingZeros_0f7a4_63 (by decide) (fun c63 => ?_) (fun c63 => ?_)
          · refine lv_iload_n hx hb dJ6_numberOfLeadingZeros_0f7a4_73 rfl (lv_at hl 1 rfl) ?_
            refine lv_iload_n hx hb dJ6_numberOfLeadingZeros_0f7a4_74 rfl (lv_at hl 0 rfl) ?_
            refine lv_iconst (v := nI 1) hx hb dJ6_numberOfLeadingZeros_0f7a4_75 (by decide) ?_
            refine lv_iushr (v := (p_ush (nI (v / 256)) (nI 1))) hx hb dJ6_numberOfLeadingZeros_0f7a4_76 rfl ?_
            refine top_i (nI ((v / 256) / 2)) (pk_ushrN (by omega) (nI 1) 1 (by decide)) ?_
            refine su_N hx hb (31 - 8) ((v / 256) / 2) (by omega) dJ6_numberOfLeadingZeros_0f7a4_77 ?_
            exact ret 78 _ _ _ (nI ((31 - 8) - ((v / 256) / 2))) () dJ6_numberOfLeadingZeros_0f7a4_78 (lz_leaf (k := 8) (by omega) (v / 256) (by omega) (by omega) (by omega)) hP hD hS
          · refine lv_iinc (v := nI (31 - 8 - 2)) (lv' := [(1, .int (nI (31 - 8 - 2))), (0, .int (nI (v / 256)))]) hx hb dJ6_numberOfLeadingZeros_0f7a4_66 hl (k := 1) rfl (dec_N (31 - 8) 2 (by omega)) (by decide) rfl (fun ls hl => ?_)
            refine lv_iload_n hx hb dJ6_numberOfLeadingZeros_0f7a4_69 rfl (lv_at hl 1 rfl) ?_
            refine lv_iconst (v := nI 2) hx hb dJ6_numberOfLeadingZeros_0f7a4_70 (by decide) ?_
            refine lv_iushr (v := (p_ush (nI (v / 256)) (nI 2))) hx hb dJ6_numberOfLeadingZeros_0f7a4_71 rfl ?_
            refine top_i (nI ((v / 256) / 4)) (pk_ushrN (by omega) (nI 2) 2 (by decide)) ?_
            refine lv_istore_n (lv' := [(0, .int (nI ((v / 256) / 4))), (1, .int (nI (31 - 8 - 2)))]) hx hb dJ6_numberOfLeadingZeros_0f7a4_72 rfl hl (by decide) rfl (fun ls hl => ?_)
            refine lv_iload_n hx hb dJ6_numberOfLeadingZeros_0f7a4_73 rfl (lv_at hl 1 rfl) ?_
            refine lv_iload_n hx hb dJ6_numberOfLeadingZeros_0f7a4_74 rfl (lv_at hl 0 rfl) ?_
            refine lv_iconst (v := nI 1) hx hb dJ6_numberOfLeadingZeros_0f7a4_75 (by decide) ?_
            refine lv_iushr (v := (p_ush (nI ((v / 256) / 4)) (nI 1))) hx hb dJ6_numberOfLeadingZeros_0f7a4_76 rfl ?_
            refine top_i (nI (((v / 256) / 4) / 2)) (pk_ushrN (by omega) (nI 1) 1 (by decide)) ?_
            refine su_N hx hb (31 - 8 - 2) (((v / 256) / 4) / 2) (by omega) dJ6_numberOfLeadingZeros_0f7a4_77 ?_
            exact ret 78 _ _ _ (nI ((31 - 8 - 2) - (((v / 256) / 4) / 2))) () dJ6_numberOfLeadingZeros_0f7a4_78 (lz_leaf (k := 10) (by omega) ((v / 256) / 4) (by omega) (by omega) (by omega)) hP hD hS
        · refine lv_iinc (v := nI (31 - 8 - 4)) (lv' := [(1, .int (nI (31 - 8 - 4))), (0, .int (nI (v / 256)))]) hx hb dJ6_numberOfLeadingZeros_0f7a4_54 hl (k := 1) rfl (dec_N (31 - 8) 4 (by omega)) (by decide) rfl (fun ls hl => ?_)
          refine lv_iload_n hx hb dJ6_numberOfLeadingZeros_0f7a4_57 rfl (lv_at hl 1 rfl) ?_
          refine lv_iconst (v := nI 4) hx hb dJ6_numberOfLeadingZeros_0f7a4_58 (by decide) ?_
          refine lv_iushr (v := (p_ush (nI (v / 256)) (nI 4))) hx hb dJ6_numberOfLeadingZeros_0f7a4_59 rfl ?_
          refine top_i (nI ((v / 256) / 16)) (pk_ushrN (by omega) (nI 4) 4 (by decide)) ?_
          refine lv_istore_n (lv' := [(0, .int (nI ((v / 256) / 16))), (1, .int (nI (31 - 8 - 4)))]) hx hb dJ6_numberOfLeadingZeros_0f7a4_60 rfl hl (by decide) rfl (fun ls hl => ?_)
          refine lv_iload_n hx hb dJ6_numberOfLeadingZeros_0f7a4_61 rfl (lv_at hl 0 rfl) ?_
          refine lv_iconst (v := nI 4) hx hb dJ6_numberOfLeadingZeros_0f7a4_62 (by decide) ?_
          refine cmp_lt hx hb ((v / 256) / 16) 4 73 (by omega) (by omega) dJ6_numberOfLeadingZeros_0f7a4_63 (by decide) (fun c63 => ?_) (fun c63 => ?_)
          · refine lv_iload_n hx hb dJ6_numberOfLeadingZeros_0f7a4_73 rfl (lv_at hl 1 rfl) ?_
            refine lv_iload_n hx hb dJ6_numberOfLeadingZeros_0f7a4_74 rfl (lv_at hl 0 rfl) ?_
            refine lv_iconst (v := nI 1) hx hb dJ6_numberOfLeadingZeros_0f7a4_75 (by decide) ?_
            refine lv_iushr (v := (p_ush (nI ((v / 256) / 16)) (nI 1))) hx hb dJ6_numberOfLeadingZeros_0f7a4_76 rfl ?_
            refine top_i (nI (((v / 256) / 16) / 2)) (pk_ushrN (by omega) (nI 1) 1 (by decide)) ?_
            refine su_N hx hb (31 - 8 - 4) (((v / 256) / 16) / 2) (by omega) dJ6_numberOfLeadingZeros_0f7a4_77 ?_
            exact ret 78 _ _ _ (nI ((31 - 8 - 4) - (((v / 256) / 16) / 2))) () dJ6_numberOfLeadingZeros_0f7a4_78 (lz_leaf (k := 12) (by omega) ((v / 256) / 16) (by omega) (by omega) (by omega)) hP hD hS
          · refine lv_iinc (v := nI (31 - 8 - 4 - 2)) (lv' := [(1, .int (nI (31 - 8 - 4 - 2))), (0, .int (nI ((v / 256) / 16)))]) hx hb dJ6_numberOfLeadingZeros_0f7a4_66 hl (k := 1) rfl (dec_N (31 - 8 - 4) 2 (by omega)) (by decide) rfl (fun ls hl => ?_)
            refine lv_iload_n hx hb dJ6_numberOfLeadingZeros_0f7a4_69 rfl (lv_at hl 1 rfl) ?_
            refine lv_iconst (v := nI 2) hx hb dJ6_numberOfLeadingZeros_0f7a4_70 (by decide) ?_
            refine lv_iushr (v := (p_ush (nI ((v / 256) / 16)) (nI 2))) hx hb dJ6_numberOfLeadingZeros_0f7a4_71 rfl ?_
            refine top_i (nI (((v / 256) / 16) / 4)) (pk_ushrN (by omega) (nI 2) 2 (by decide)) ?_
            refine lv_istore_n (lv' := [(0, .int (nI (((v / 256) / 16) / 4))), (1, .int (nI (31 - 8 - 4 - 2)))]) hx hb dJ6_numberOfLeadingZeros_0f7a4_72 rfl hl (by decide) rfl (fun ls hl => ?_)
            refine lv_iload_n hx hb dJ6_numberOfLeadingZeros_0f7a4_73 rfl (lv_at hl 1 rfl) ?_
            refine lv_iload_n hx hb dJ6_numberOfLeadingZeros_0f7a4_74 rfl (lv_at hl 0 rfl) ?_
            refine lv_iconst (v := nI 1) hx hb dJ6_numberOfLeadingZeros_0f7a4_75 (by decide) ?_
            refine lv_iushr (v := (p_ush (nI (((v / 256) / 16) / 4)) (nI 1))) hx hb dJ6_numberOfLeadingZeros_0f7a4_76 rfl ?_
            refine top_i (nI ((((v / 256) / 16) / 4) / 2)) (pk_ushrN (by omega) (nI 1) 1 (by decide)) ?_
            refine su_N hx hb (31 - 8 - 4 - 2) ((((v / 256) / 16) / 4) / 2) (by omega) dJ6_numberOfLeadingZeros_0f7a4_77 ?_
            exact ret 78 _ _ _ (nI ((31 - 8 - 4 - 2) - ((((v / 256) / 16) / 4) / 2))) () dJ6_numberOfLeadingZeros_0f7a4_78 (lz_leaf (k := 14) (by omega) (((v / 256) / 16) / 4) (by omega) (by omega) (by omega)) hP hD hS
    · refine lv_iinc (v := nI (31 - 16)) (lv' := [(1, .int (nI (31 - 16))), (0, .int (nI v))]) hx hb dJ6_numberOfLeadingZeros_0f7a4_25 hl (k := 0) rfl (dec_N 31 16 (by omega)) (by decide) rfl (fun ls hl => ?_)
      refine lv_iload_n hx hb dJ6_numberOfLeadingZeros_0f7a4_28 rfl (lv_at hl 1 rfl) ?_
      refine lv_bipush (v := nI 16) hx hb dJ6_numberOfLeadingZeros_0f7a4_29 (by decide) ?_
      refine lv_iushr (v := (p_ush (nI v) (nI 16))) hx hb dJ6_numberOfLeadingZeros_0f7a4_31 rfl ?_
      refine top_i (nI (v / 65536)) (pk_ushrN (by omega) (nI 16) 16 (by decide)) ?_
      refine lv_istore_n (lv' := [(0, .int (nI (v / 65536))), (1, .int (nI (31 - 16)))]) hx hb dJ6_numberOfLeadingZeros_0f7a4_32 rfl hl (by decide) rfl (fun ls hl => ?_)
      refine lv_iload_n hx hb dJ6_numberOfLeadingZeros_0f7a4_33 rfl (lv_at hl 0 rfl) ?_
      refine lv_sipush (v := nI 256) hx hb dJ6_numberOfLeadingZeros_0f7a4_34 (by decide) ?_
      refine cmp_lt hx hb (v / 65536) 256 48 (by omega) (by omega) dJ6_numberOfLeadingZeros_0f7a4_37 (by decide) (fun c37 => ?_) (fun c37 => ?_)
      · refine lv_iload_n hx hb dJ6_numberOfLeadingZeros_0f7a4_48 rfl (lv_at hl 0 rfl) ?_
        refine lv_bipush (v := nI 16) hx hb dJ6_numberOfLeadingZeros_0f7a4_49 (by decide) ?_
        refine cmp_lt hx hb (v / 65536) 16 61 (by omega) (by omega) dJ6_numberOfLeadingZeros_0f7a4_51 (by decide) (fun c51 => ?_) (fun c51 => ?_)
        · refine lv_iload_n hx hb dJ6_numberOfLeadingZeros_0f7a4_61 rfl (lv_at hl 0 rfl) ?_
          refine lv_iconst (v := nI 4) hx hb dJ6_numberOfLeadingZeros_0f7a4_62 (by decide) ?_
          refine cmp_lt hx hb (v / 65536) 4 73 (by omega) (by omega) dJ6_numberOfLeadingZeros_0f7a4_63 (by decide) (fun c63 => ?_) (fun c63 => ?_)
          · refine lv_iload_n hx hb dJ6_numberOfLeadingZeros_0f7a4_73 rfl (lv_at hl 1 rfl) ?_
            refine lv_iload_n hx hb dJ6_numberOfLeadingZeros_0f7a4_74 rfl (lv_at hl 0 rfl) ?_
            refine lv_iconst (v := nI 1) hx hb dJ6_numberOfLeadingZeros_0f7a4_75 (by decide) ?_
            refine lv_iushr (v := (p_ush (nI (v / 65536)) (nI 1))) hx hb dJ6_numberOfLeadingZeros_0f7a4_76 rfl ?_
            refine top_i (nI ((v / 65536) / 2)) (pk_ushrN (by omega) (nI 1) 1 (by decide)) ?_
            refine su_N hx hb (31 - 16) ((v / 65536) / 2) (by omega) dJ6_numberOfLeadingZeros_0f7a4_77 ?_
            exact ret 78 _ _ _ (nI ((31 - 16) - ((v / 65536) / 2))) () dJ6_numberOfLeadingZeros_0f7a4_78 (lz_leaf (k := 16) (by omega) (v / 65536) (by omega) (by omega) (by omega)) hP hD hS
          · refine lv_iinc (v := nI (31 - 16 - 2)) (lv' := [(1, .int (nI (31 - 16 - 2))), (0, .int (nI (v / 65536)))]) hx hb dJ6_numberOfLeadingZeros_0f7a4_66 hl (k := 1) rfl (dec_N (31 - 16) 2 (by omega)) (by decide) rfl (fun ls hl => ?_)
            refine lv_iload_n hx hb dJ6_numberOfLeadingZeros_0f7a4_69 rfl (lv_at hl 1 rfl) ?_
            refine lv_iconst (v := nI 2) hx hb dJ6_numberOfLeadingZeros_0f7a4_70 (by decide) ?_
            refine lv_iushr (v := (p_ush (nI (v / 65536)) (nI 2))) hx hb dJ6_numberOfLeadingZeros_0f7a4_71 rfl ?_
            refine top_i (nI ((v / 65536) / 4)) (pk_ushrN (by omega) (nI 2) 2 (by decide)) ?_
            refine lv_istore_n (lv' := [(0, .int (nI ((v / 65536) / 4))), (1, .int (nI (31 - 16 - 2)))]) hx hb dJ6_numberOfLeadingZeros_0f7a4_72 rfl hl (by decide) rfl (fun ls hl => ?_)
            refine lv_iload_n hx hb dJ6_numberOfLeadingZeros_0f7a4_73 rfl (lv_at hl 1 rfl) ?_
            refine lv_iload_n hx hb dJ6_numberOfLeadingZeros_0f7a4_74 rfl (lv_at hl 0 rfl) ?_
            refine lv_iconst (v := nI 1) hx hb dJ6_numberOfLeadingZeros_0f7a4_75 (by decide) ?_
            refine lv_iushr (v := (p_ush (nI ((v / 65536) / 4)) (nI 1))) hx hb dJ6_numberOfLeadingZeros_0f7a4_76 rfl ?_
            refine top_i (nI (((v / 65536) / 4) / 2)) (pk_ushrN (by omega) (nI 1) 1 (by decide)) ?_
            refine su_N hx hb (31 - 16 - 2) (((v / 65536) / 4) / 2) (by omega) dJ6_numberOfLeadingZeros_0f7a4_77 ?_
            exact ret 78 _ _ _ (nI ((31 - 16 - 2) - (((v / 65536) / 4) / 2))) () dJ6_numberOfLeadingZeros_0f7a4_78 (lz_leaf (k := 18) (by omega) ((v / 65536) / 4) (by omega) (by omega) (by omega)) hP hD hS
        · refine lv_iinc (v := nI (31 - 16 - 4)) (lv' := [(1, .int (nI (31 - 16 - 4))), (0, .int (nI (v / 65536)))]) hx hb dJ6_numberOfLeadingZeros_0f7a4_54 hl (k := 1) rfl (dec_N (31 - 16) 4 (by omega)) (by decide) rfl (fun ls hl => ?_)
          refine lv_iload_n hx hb dJ6_numberOfLeadingZeros_0f7a4_57 rfl (lv_at hl 1 rfl) ?_
          refine lv_iconst (v := nI 4) hx hb dJ6_numberOfLeadingZeros_0f7a4_58 (by decide) ?_
          refine lv_iushr (v := (p_ush (nI (v / 65536)) (nI 4))) hx hb dJ6_numberOfLeadingZeros_0f7a4_59 rfl ?_
          refine top_i (nI ((v / 65536) / 16)) (pk_ushrN (by omega) (nI 4) 4 (by decide)) ?_
          refine lv_istore_n (lv' := [(0, .int (nI ((v / 65536) / 16))), (1, .int (nI (31 - 16 - 4)))]) hx hb dJ6_numberOfLeadingZeros_0f7a4_60 rfl hl (by decide) rfl (fun ls hl => ?_)
          refine lv_iload_n hx hb dJ6_numberOfLeadingZeros_0f7a4_61 rfl (lv_at hl 0 rfl) ?_
          refine lv_iconst (v := nI 4) hx hb dJ6_numberOfLeadingZeros_0f7a4_62 (by decide) ?_
          refine cmp_lt hx hb ((v / 65536) / 16) 4 73 (by omega) (by omega) dJ6_numberOfLeadingZeros_0f7a4_63 (by decide) (fun c63 => ?_) (fun c63 => ?_)
          · refine lv_iload_n hx hb dJ6_numberOfLeadingZeros_0f7a4_73 rfl (lv_at hl 1 rfl) ?_
            refine lv_iload_n hx hb dJ6_numberOfLeadingZeros_0f7a4_74 rfl (lv_at hl 0 rfl) ?_
            refine lv_iconst (v := nI 1) hx hb dJ6_numberOfLeadingZeros_0f7a4_75 (by decide) ?_
            refine lv_iushr (v := (p_ush (nI ((v / 65536) / 16)) (nI 1))) hx hb dJ6_numberOfLeadingZeros_0f7a4_76 rfl ?_
            refine top_i (nI (((v / 65536) / 16) / 2)) (pk_ushrN (by omega) (nI 1) 1 (by decide)) ?_
            refine su_N hx hb (31 - 16 - 4) (((v / 65536) / 16) / 2) (by omega) dJ6_numberOfLeadingZeros_0f7a4_77 ?_
            exact ret 78 _ _ _ (nI ((31 - 16 - 4) - (((v / 65536) / 16) / 2))) () dJ6_numberOfLeadingZeros_0f7a4_78 (lz_leaf (k := 20) (by omega) ((v / 65536) / 16) (by omega) (by omega) (by omega)) hP hD hS
          · refine lv_iinc (v := nI (31 - 16 - 4 - 2)) (lv' := [(1, .int (nI (31 - 16 - 4 - 2))), (0, .int (nI ((v / 65536) / 16)))]) hx hb dJ6_numberOfLeadingZeros_0f7a4_66 hl (k := 1) rfl (dec_N (31 - 16 - 4) 2 (by omega)) (by decide) rfl (fun ls hl => ?_)
            refine lv_iload_n hx hb dJ6_numberOfLeadingZeros_0f7a4_69 rfl (lv_at hl 1 rfl) ?_
            refine lv_iconst (v := nI 2) hx hb dJ6_numberOfLeadingZeros_0f7a4_70 (by decide) ?_
            refine lv_iushr (v := (p_ush (nI ((v / 65536) / 16)) (nI 2))) hx hb dJ6_numberOfLeadingZeros_0f7a4_71 rfl ?_
            refine top_i (nI (((v / 65536) / 16) / 4)) (pk_ushrN (by omega) (nI 2) 2 (by decide)) ?_
            refine lv_istore_n (lv' := [(0, .int (nI (((v / 65536) / 16) / 4))), (1, .int (nI (31 - 16 - 4 - 2)))]) hx hb dJ6_numberOfLeadingZeros_0f7a4_72 rfl hl (by decide) rfl (fun ls hl => ?_)
            refine lv_iload_n hx hb dJ6_numberOfLeadingZeros_0f7a4_73 rfl (lv_at hl 1 rfl) ?_
            refine lv_iload_n hx hb dJ6_numberOfLeadingZeros_0f7a4_74 rfl (lv_at hl 0 rfl) ?_
            refine lv_iconst (v := nI 1) hx hb dJ6_numberOfLeadingZeros_0f7a4_75 (by decide) ?_
            refine lv_iushr (v := (p_ush (nI (((v / 65536) / 16) / 4)) (nI 1))) hx hb dJ6_numberOfLeadingZeros_0f7a4_76 rfl ?_
            refine top_i (nI ((((v / 65536) / 16) / 4) / 2)) (pk_ushrN (by omega) (nI 1) 1 (by decide)) ?_
            refine su_N hx hb (31 - 16 - 4 - 2) ((((v / 65536) / 16) / 4) / 2) (by omega) dJ6_numberOfLeadingZeros_0f7a4_77 ?_
            exact ret 78 _ _ _ (nI ((31 - 16 - 4 - 2) - ((((v / 65536) / 16) / 4) / 2))) () dJ6_numberOfLeadingZeros_0f7a4_78 (lz_leaf (k := 22) (by omega) (((v / 65536) / 16) / 4) (by omega) (by omega) (by omega)) hP hD hS
      · refine lv_iinc (v := nI (31 - 16 - 8)) (lv' := [(1, .int (nI (31 - 16 - 8))), (0, .int (nI (v / 65536)))]) hx hb dJ6_numberOfLeadingZeros_0f7a4_40 hl (k := 1) rfl (dec_N (31 - 16) 8 (by omega)) (by decide) rfl (fun ls hl => ?_)
        refine lv_iload_n hx hb dJ6_numberOfLeadingZeros_0f7a4_43 rfl (lv_at hl 1 rfl) ?_
        refine lv_bipush (v := nI 8) hx hb dJ6_numberOfLeadingZeros_0f7a4_44 (by decide) ?_
        refine lv_iushr (v := (p_ush (nI (v / 65536)) (nI 8))) hx hb dJ6_numberOfLeadingZeros_0f7a4_46 rfl ?_
        refine top_i (nI ((v / 65536) / 256)) (pk_ushrN (by omega) (nI 8) 8 (by decide)) ?_
        refine lv_istore_n (lv' := [(0, .int (nI ((v / 65536) / 256))), (1, .int (nI (31 - 16 - 8)))]) hx hb dJ6_numberOfLeadingZeros_0f7a4_47 rfl hl (by decide) rfl (fun ls hl => ?_)
        refine lv_iload_n hx hb dJ6_numberOfLeadingZeros_0f7a4_48 rfl (lv_at hl 0 rfl) ?_
        refine lv_bipush (v := nI 16) hx hb dJ6_numberOfLeadingZeros_0f7a4_49 (by decide) ?_
        refine cmp_lt hx hb ((v / 65536) / 256) 16 61 (by omega) (by omega) dJ6_numberOfLeadingZeros_0f7a4_51 (by decide) (fun c51 => ?_) (fun c51 => ?_)
        · refine lv_iload_n hx hb dJ6_numberOfLeadingZeros_0f7a4_61 rfl (lv_at hl 0 rfl) ?_
          refine lv_iconst (v := nI 4) hx hb dJ6_numberOfLeadingZeros_0f7a4_62 (by decide) ?_
          refine cmp_lt hx hb ((v / 65536) / 256) 4 73 (by omega) (by omega) dJ6_numberOfLeadingZeros_0f7a4_63 (by decide) (fun c63 => ?_) (fun c63 => ?_)
          · refine lv_iload_n hx hb dJ6_numberOfLeadingZeros_0f7a4_73 rfl (lv_at hl 1 rfl) ?_
            refine lv_iload_n hx hb dJ6_numberOfLeadingZeros_0f7a4_74 rfl (lv_at hl 0 rfl) ?_
            refine lv_iconst (v := nI 1) hx hb dJ6_numberOfLeadingZeros_0f7a4_75 (by decide) ?_
            refine lv_iushr (v := (p_ush (nI ((v / 65536) / 256)) (nI 1))) hx hb dJ6_numberOfLeadingZeros_0f7a4_76 rfl ?_
            refine top_i (nI (((v / 65536) / 256) / 2)) (pk_ushrN (by omega) (nI 1) 1 (by decide)) ?_
            refine su_N hx hb (31 - 16 - 8) (((v / 65536) / 256) / 2) (by omega) dJ6_numberOfLeadingZeros_0f7a4_77 ?_
            exact ret 78 _ _ _ (nI ((31 - 16 - 8) - (((v / 65536) / 256) / 2))) () dJ6_numberOfLeadingZeros_0f7a4_78 (lz_leaf (k := 24) (by omega) ((v / 65536) / 256) (by omega) (by omega) (by omega)) hP hD hS
          · refine lv_iinc (v := nI (31 - 16 - 8 - 2)) (lv' := [(1, .int (nI (31 - 16 - 8 - 2))), (0, .int (nI ((v / 65536) / 256)))]) hx hb dJ6_numberOfLeadingZeros_0f7a4_66 hl (k := 1) rfl (dec_N (31 - 16 - 8) 2 (by omega)) (by decide) rfl (fun ls hl => ?_)
            refine lv_iload_n hx hb dJ6_numberOfLeadingZeros_0f7a4_69 rfl (lv_at hl 1 rfl) ?_
            refine lv_iconst (v := nI 2) hx hb dJ6_numberOfLeadingZeros_0f7a4_70 (by decide) ?_
            refine lv_iushr (v := (p_ush (nI ((v / 65536) / 256)) (nI 2))) hx hb dJ6_numberOfLeadingZeros_0f7a4_71 rfl ?_
            refine top_i (nI (((v / 65536) / 256) / 4)) (pk_ushrN (by omega) (nI 2) 2 (by decide)) ?_
            refine lv_istore_n (lv' := [(0, .int (nI (((v / 65536) / 256) / 4))), (1, .int (nI (31 - 16 - 8 - 2)))]) hx hb dJ6_numberOfLeadingZeros_0f7a4_72 rfl hl (by decide) rfl (fun ls hl => ?_)
            refine lv_iload_n hx hb dJ6_numberOfLeadingZeros_0f7a4_73 rfl (lv_at hl 1 rfl) ?_
            refine lv_iload_n hx hb dJ6_numberOfLeadingZeros_0f7a4_74 rfl (lv_at hl 0 rfl) ?_
            refine lv_iconst (v := nI 1) hx hb dJ6_numberOfLeadingZeros_0f7a4_75 (by decide) ?_
            refine lv_iushr (v := (p_ush (nI (((v / 65536) / 256) / 4)) (nI 1))) hx hb dJ6_numberOfLeadingZeros_0f7a4_76 rfl ?_
            refine top_i (nI ((((v / 65536) / 256) / 4) / 2)) (pk_ushrN (by omega) (nI 1) 1 (by decide)) ?_
            refine su_N hx hb (31 - 16 - 8 - 2) ((((v / 65536) / 256) / 4) / 2) (by omega) dJ6_numberOfLeadingZeros_0f7a4_77 ?_
            exact ret 78 _ _ _ (nI ((31 - 16 - 8 - 2) - ((((v / 65536) / 256) / 4) / 2))) () dJ6_numberOfLeadingZeros_0f7a4_78 (lz_leaf (k := 26) (by omega) (((v / 65536) / 256) / 4) (by omega) (by omega) (by omega)) hP hD hS
        · refine lv_iinc (v := nI (31 - 16 - 8 - 4)) (lv' := [(1, .int (nI (31 - 16 - 8 - 4))), (0, .int (nI ((v / 65536) / 256)))]) hx hb dJ6_numberOfLeadingZeros_0f7a4_54 hl (k := 1) rfl (dec_N (31 - 16 - 8) 4 (by omega)) (by decide) rfl (fun ls hl => ?_)
          refine lv_iload_n hx hb dJ6_numberOfLeadingZeros_0f7a4_57 rfl (lv_at hl 1 rfl) ?_
          refine lv_iconst (v := nI 4) hx hb dJ6_numberOfLeadingZeros_0f7a4_58 (by decide) ?_
          refine lv_iushr (v := (p_ush (nI ((v / 65536) / 256)) (nI 4))) hx hb dJ6_numberOfLeadingZeros_0f7a4_59 rfl ?_
          refine top_i (nI (((v / 65536) / 256) / 16)) (pk_ushrN (by omega) (nI 4) 4 (by decide)) ?_
          refine lv_istore_n (lv' := [(0, .int (nI (((v / 65536) / 256) / 16))), (1, .int (nI (31 - 16 - 8 - 4)))]) hx hb dJ6_numberOfLeadingZeros_0f7a4_60 rfl hl (by decide) rfl (fun ls hl => ?_)
          refine lv_iload_n hx hb dJ6_numberOfLeadingZeros_0f7a4_61 rfl (lv_at hl 0 rfl) ?_
          refine lv_iconst (v := nI 4) hx hb dJ6_numberOfLeadingZeros_0f7a4_62 (by decide) ?_
          refine cmp_lt hx hb (((v / 65536) / 256) / 16) 4 73 (by omega) (by omega) dJ6_numberOfLeadingZeros_0f7a4_63 (by decide) (fun c63 => ?_) (fun c63 => ?_)
          · refine lv_iload_n hx hb dJ6_numberOfLeadingZeros_0f7a4_73 rfl (lv_at hl 1 rfl) ?_
            refine lv_iload_n hx hb dJ6_numberOfLeadingZeros_0f7a4_74 rfl (lv_at hl 0 rfl) ?_
            refine lv_iconst (v := nI 1) hx hb dJ6_numberOfLeadingZeros_0f7a4_75 (by decide) ?_
            refine lv_iushr (v := (p_ush (nI (((v / 65536) / 256) / 16)) (nI 1))) hx hb dJ6_numberOfLeadingZeros_0f7a4_76 rfl ?_
            refine top_i (nI ((((v / 65536) / 256) / 16) / 2)) (pk_ushrN (by omega) (nI 1) 1 (by decide)) ?_
            refine su_N hx hb (31 - 16 - 8 - 4) ((((v / 65536) / 256) / 16) / 2) (by omega) dJ6_numberOfLeadingZeros_0f7a4_77 ?_
            exact ret 78 _ _ _ (nI ((31 - 16 - 8 - 4) - ((((v / 65536) / 256) / 16) / 2))) () dJ6_numberOfLeadingZeros_0f7a4_78 (lz_leaf (k := 28) (by omega) (((v / 65536) / 256) / 16) (by omega) (by omega) (by omega)) hP hD hS
          · refine lv_iinc (v := nI (31 - 16 - 8 - 4 - 2)) (lv' := [(1, .int (nI (31 - 16 - 8 - 4 - 2))), (0, .int (nI (((v / 65536) / 256) / 16)))]) hx hb dJ6_numberOfLeadingZeros_0f7a4_66 hl (k := 1) rfl (dec_N (31 - 16 - 8 - 4) 2 (by omega)) (by decide) rfl (fun ls hl => ?_)
            refine lv_iload_n hx hb dJ6_numberOfLeadingZeros_0f7a4_69 rfl (lv_at hl 1 rfl) ?_
            refine lv_iconst (v := nI 2) hx hb dJ6_numberOfLeadingZeros_0f7a4_70 (by decide) ?_
            refine lv_iushr (v := (p_ush (nI (((v / 65536) / 256) / 16)) (nI 2))) hx hb dJ6_numberOfLeadingZeros_0f7a4_71 rfl ?_
            refine top_i (nI ((((v / 65536) / 256) / 16) / 4)) (pk_ushrN (by omega) (nI 2) 2 (by decide)) ?_
            refine lv_istore_n (lv' := [(0, .int (nI ((((v / 65536) / 256) / 16) / 4))), (1, .int (nI (31 - 16 - 8 - 4 - 2)))]) hx hb dJ6_numberOfLeadingZeros_0f7a4_72 rfl hl (by decide) rfl (fun ls hl => ?_)
            refine lv_iload_n hx hb dJ6_numberOfLeadingZeros_0f7a4_73 rfl (lv_at hl 1 rfl) ?_
            refine lv_iload_n hx hb dJ6_numberOfLeadingZeros_0f7a4_74 rfl (lv_at hl 0 rfl) ?_
            refine lv_iconst (v := nI 1) hx hb dJ6_numberOfLeadingZeros_0f7a4_75 (by decide) ?_
            refine lv_iushr (v := (p_ush (nI ((((v / 65536) / 256) / 16) / 4)) (nI 1))) hx hb dJ6_numberOfLeadingZeros_0f7a4_76 rfl ?_
            refine top_i (nI (((((v / 65536) / 256) / 16) / 4) / 2)) (pk_ushrN (by omega) (nI 1) 1 (by decide)) ?_
            refine su_N hx hb (31 - 16 - 8 - 4 - 2) (((((v / 65536) / 256) / 16) / 4) / 2) (by omega) dJ6_numberOfLeadingZeros_0f7a4_77 ?_
            exact ret 78 _ _ _ (nI ((31 - 16 - 8 - 4 - 2) - (((((v / 65536) / 256) / 16) / 4) / 2))) () dJ6_numberOfLeadingZeros_0f7a4_78 (lz_leaf (k := 30) (by omega) ((((v / 65536) / 256) / 16) / 4) (by omega) (by omega) (by omega)) hP hD hS
  · refine lv_iload_n hx hb dJ6_numberOfLeadingZeros_0f7a4_4 rfl (lv_at hl 0 rfl) ?_
    refine lv_if_ne (tgt := 13) hx hb dJ6_numberOfLeadingZeros_0f7a4_5 (by decide) (fun c5 => ?_) (fun c5 => ?_)
    · refine lv_iconst (v := nI 0) hx hb dJ6_numberOfLeadingZeros_0f7a4_13 (by decide) ?_
      exact ret 14 _ _ _ (nI 0) () dJ6_numberOfLeadingZeros_0f7a4_14 (lz_neg c1 c5) hP hD hS
    · refine lv_bipush (v := nI 32) hx hb dJ6_numberOfLeadingZeros_0f7a4_8 (by decide) ?_
      refine lv_goto (tgt := 14) hx hb dJ6_numberOfLeadingZeros_0f7a4_10 (by decide) ?_
      exact ret 14 _ _ _ (nI 32) () dJ6_numberOfLeadingZeros_0f7a4_14 (lz_0 c5) hP hD hS
abbrev wZr (G : gG) (o x y z : Nat) (fh : Nat → Int32) : va_W := [(o, .inr (1, [.ref x, .ref y, .ref z])), (y, .inl (G.2.2.1, 8, .inl fh))]
set_option maxHeartbeats 4000000 in
set_option maxRecDepth 100000 in
theorem c_zeros (l : Launch) (G : gG) (sz : Nat) (o x y z : Nat) (fh : Nat → Int32)  : MetI l yX1_zeros wsX1_zeros ({ frames := 1, cells := 0, slots := 0, locals := 21 } : Room) [.ref o] G (wZr G o x y z fh) sz (fun _ : Unit => wZr G o x y z fh) (fun r _ => r = nI (p_zeros fh)) := by
  refine ent_i _ cX1_zeros 2 RX1 (by decide) rfl rfl (Nat.le_of_ble_eq_true rfl) ?_
  intro p e s m args below meth c A Q ls hx hb hml hts hown hA hK hX ret hl hP hD hS
  have hl : lv_has ls 2 [(0, .ref o)] := hl
  have lk15 := hts (.fieldLink RX1 15 "MinedLedger$Hasher" "hash" "[I") (by decide +kernel)
  have hiX1 : ∀ w ∈ wsX10, w ∈ wsX1_zeros := by decide +kernel
  refine lv_iconst (v := nI 0) hx hb dX1_zeros_0 (by decide) ?_
  refine lv_istore_n (lv' := [(1, .int (nI 0)), (0, .ref o)]) hx hb dX1_zeros_1 rfl hl (by decide) rfl (fun ls hl => ?_)
  suffices hloop1 : ∀ (fu1 : Nat) (i : Nat), (i ≤ 8) → (∀ j, j < i → fh j = 0) → 8 - i < fu1 → ∀ (H : Heap) (locs : List Loc) (ls : Array Slot), va_P G.1 vwCl (wZr G o x y z fh) H → va_D A (wZr G o x y z fh) → va_S A s.heap H locs → lv_has ls 2 [(0, .ref o), (1, .int (nI i))] → W p l e ({ frames := 1, cells := 0, slots := 0, locals := 21 } : Room) s m args below meth c H locs 0 0 Q (F0 m 2 ls []) from hloop1 _ 0 (Nat.zero_le _) (fun j h => absurd h (Nat.not_lt_zero j)) (Nat.lt_succ_self _) _ _ _ hP hD hS (lv_sub hl [1, 0] rfl)
  clear hP hD hS hl
  intro fu1
  induction fu1 with
  | zero => intro i hi hm hfu; exact absurd hfu (Nat.not_lt_zero _)
  | succ fu1 ih1 =>
    intro i hi hm hfu1 H locs ls hP hD hS hl
    refine lv_iload_n hx hb dX1_zeros_2 rfl (lv_at hl 1 rfl) ?_
    refine lv_bipush (v := nI 8) hx hb dX1_zeros_3 (by decide) ?_
    refine cmp_ge hx hb i 8 38 (by omega) (by omega) dX1_zeros_5 (by decide) (fun c5 => ?_) (fun c5 => ?_)
    · have e38 : i = 8 := by omega
      subst e38
      refine lv_sipush (v := nI 256) hx hb dX1_zeros_38 (by decide) ?_
      exact ret 41 _ _ _ (nI 256) () dX1_zeros_41 (zeros_all hm) hP hD hS
    · refine lv_aload_n hx hb dX1_zeros_8 rfl (lv_at hl 0 rfl) ?_
      refine va_get (D := G.1) (ci := 1) (v := .ref y) (C := RX1) (T := TX1) (N := 3) hx hb hts hiX1 hown hK hP 0 rfl rfl 1 (by decide) lk15 (fun _ h9 => h9) rfl dX1_zeros_9 ?_
      refine lv_iload_n hx hb dX1_zeros_12 rfl (lv_at hl 1 rfl) ?_
      refine rd_i hx hb hK hP 1 rfl i (by omega) (by omega) dX1_zeros_13 ?_
      refine lv_if_eq (tgt := 32) hx hb dX1_zeros_14 (by decide) (fun c14 => ?_) (fun c14 => ?_)
      · refine lv_iinc (v := nI (i + 1)) (lv' := [(1, .int (nI (i + 1))), (0, .ref o)]) hx hb dX1_zeros_32 hl (k := 1) rfl (inc_N i 1) (by decide) rfl (fun ls hl => ?_)
        refine lv_goto (tgt := 2) hx hb dX1_zeros_35 (by decide) ?_
        exact ih1 (i + 1) (by omega) (lt_s hm c14) (by omega) _ _ _ hP hD hS (lv_sub hl [1, 0] rfl)
      · refine lv_bipush (v := nI 32) hx hb dX1_zeros_17 (by decide) ?_
        refine lv_iload_n hx hb dX1_zeros_19 rfl (lv_at hl 1 rfl) ?_
        refine mu_N hx hb 32 i dX1_zeros_20 ?_
        refine lv_aload_n hx hb dX1_zeros_21 rfl (lv_at hl 0 rfl) ?_
        refine va_get (D := G.1) (ci := 1) (v := .ref y) (C := RX1) (T := TX1) (N := 3) hx hb hts hiX1 hown hK hP 0 rfl rfl 1 (by decide) lk15 (fun _ h9 => h9) rfl dX1_zeros_22 ?_
        refine lv_iload_n hx hb dX1_zeros_25 rfl (lv_at hl 1 rfl) ?_
        refine rd_i hx hb hK hP 1 rfl i (by omega) (by omega) dX1_zeros_26 ?_
        refine call_Si (wr := ([(o, .inr (1, [.ref x, .ref y, .ref z])), (y, .inl (G.2.2.1, 8, .inl fh))] : va_W)) [.int (fh i)] [.int (nI (32 * i))] ⟨hx, hb, hml, hown, hts⟩ hK hX hA hP hD hS (c_nlz l G _ (fh i)) (va_cwS 1 hts gX1_zeros_J6_numberOfLeadingZeros_0f7a4 rfl rfl rfl (by decide +kernel) ⟨Nat.le_of_ble_eq_true rfl, Nat.le_of_ble_eq_true rfl⟩) [] [0, 1] rfl rfl (by decide) (by decide) (by decide) rfl hl.1 (Nat.le_of_ble_eq_true rfl) dX1_zeros_27 ⟨Nat.zero_le _, Nat.zero_le _⟩ (fun r_3 u H locs hw hP hD hS => ?_)
        obtain rfl := hw
        have hP : va_P G.1 vwCl (wZr G o x y z fh) H := hP
        have hD : va_D A (wZr G o x y z fh) := hD
        refine ad_N hx hb (32 * i) (p_lz (fh i)) dX1_zeros_30 ?_
        exact ret 31 _ _ _ (nI ((32 * i) + (p_lz (fh i)))) () dX1_zeros_31 (zeros_at (by omega) hm c14) hP hD hS
