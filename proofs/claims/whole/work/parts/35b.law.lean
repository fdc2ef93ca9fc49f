set_option maxHeartbeats 4000000 in
set_option maxRecDepth 100000 in
theorem law_may {p : Program} {l : Launch} {e : Env} {s : State} {m : MethodId} {args : Array Value} {below : List Frame} {meth : Method} {c : Code} {A : Nat → Prop} {Q : State → Prop} {G : gG} {q9 L : Nat} {xs : Nat → Int32} {ls : Array Slot} {a b : Nat → Nat} (hx : p.tables.exec = Jvm.exec) (hb : c.code = cL_law) (hml : c.maxLocals = 4) (hown : s.vm.findClass RL = some m.cls) (hts : ∀ w ∈ wsL_law, w.before args s = true) (hA : ∀ q : Nat, s.heap.size ≤ q → A q) (hK : va_K G.1 vwCl (gT G) s) (hX : st_X G A s s.heap) (hX9 : va_X q9 L xs s s.heap) (hbl : q9 < s.heap.size) (hbA : ¬ A q9) (hL : L ≤ 2049) {i : Nat} (hi : 1 ≤ i) (hiL : i + 4 ≤ L) (hl : lv_has ls 4 [(0, .ref q9), (1, .ref (a 0)), (2, .ref (b 0)), (3, .int (nI i))]) {fm fh fw fb fc fd fr fp : Nat → Int32} {gc gd gw gf gp ga gb gh gg gx ge : Nat → Int32} {n k z t : Nat} {kn : Int32} {pl lf pn : Nat} {H : Heap} {locs : List Loc} (hrel : Rel fb fc fd fr fp n k z t kn pl lf pn gc gd gw gf gp) (hga : ∀ j, j < 64 → ga j = st_K j) (hgb : ∀ j, j < 8 → gb j = st_S j) (hP : va_P G.1 vwCl (wC G a fm fh fw fb fc fd fr fp n k z t kn pl lf pn ++ wMd G b gc gd gw gf gp ga gb gh gg gx ge n k z t kn pl lf pn) H) (hD : va_D A (wC G a fm fh fw fb fc fd fr fp n k z t kn pl lf pn ++ wMd G b gc gd gw gf gp ga gb gh gg gx ge n k z t kn pl lf pn)) (hS : va_S A s.heap H locs)
    (kk : ∀ (fm fh fw fb fc fd fr fp : Nat → Int32) (gc gd gw gf gp ga gb gh gg gx ge : Nat → Int32) (n k z t : Nat) (kn : Int32) (pl lf pn : Nat) (H : Heap) (locs : List Loc), Rel fb fc fd fr fp n k z t kn pl lf pn gc gd gw gf gp → (∀ j, j < 64 → ga j = st_K j) → (∀ j, j < 8 → gb j = st_S j) → va_P G.1 vwCl (wC G a fm fh fw fb fc fd fr fp n k z t kn pl lf pn ++ wMd G b gc gd gw gf gp ga gb gh gg gx ge n k z t kn pl lf pn) H → va_D A (wC G a fm fh fw fb fc fd fr fp n k z t kn pl lf pn ++ wMd G b gc gd gw gf gp ga gb gh gg gx ge n k z t kn pl lf pn) → va_S A s.heap H locs → W p l e room_1 s m args below meth c H locs 23 8649 Q (F0 m 677 ls [])) : W p l e room_1 s m args below meth c H locs 23 8649 Q (F0 m 414 ls []) := by
  obtain ⟨hB1, hB2, hB3, hB4, hB5, hB6, hB7⟩ := hrel.1
  refine lv_aload_n hx hb dL_law_414 rfl (lv_at hl 1 rfl) ?_
  refine lv_aload_n hx hb dL_law_415 rfl (lv_at hl 0 rfl) ?_
  refine lv_iload_n hx hb dL_law_416 rfl (lv_at hl 3 rfl) ?_
  refine lv_iconst (v := nI 1) hx hb dL_law_417 (by decide) ?_
  refine ad_N hx hb i 1 dL_law_418 ?_
  refine sl_N hx hb hX9 hbl hbA hS (i + 1) (by omega) hL dL_law_419 ?_
  refine call_Vi (wr := wMd G b gc gd gw gf gp ga gb gh gg gx ge n k z t kn pl lf pn) [.int (xs (i + 1))] [] ⟨hx, hb, hml, hown, hts⟩ hK hX hA hP hD hS (c_may l G _ a fm fh fw fb fc fd fr fp n k z t kn pl lf pn (xs (i + 1)) (by omega) (by omega) (by omega) (by omega) (by omega) (by omega) (by omega)) (cwV 1 hts gL_law_X2_may rfl rfl rfl (by decide +kernel) ⟨Nat.le_of_ble_eq_true rfl, Nat.le_of_ble_eq_true rfl⟩) 2 0 rfl rfl rfl [0, 1, 2, 3, 4, 5, 6, 7, 8, 9, 10] [11, 12, 13, 14, 15, 16, 17, 18, 19, 20, 21, 22] rfl rfl (by decide) (by decide) (by decide) rfl hl.1 (Nat.le_of_ble_eq_true rfl) dL_law_420 ⟨Nat.le_of_ble_eq_true rfl, Nat.le_of_ble_eq_true rfl⟩ (fun r1 u H locs hw1 hP hD hS => ?_)
  have hP : va_P G.1 vwCl (wC G a fm fh fw fb fc fd fr fp n k z t kn pl lf pn ++ wMd G b gc gd gw gf gp ga gb gh gg gx ge n k z t kn pl lf pn) H := hP.sub [12, 13, 14, 15, 16, 17, 18, 19, 20, 21, 22, 0, 1, 2, 3, 4, 5, 6, 7, 8, 9, 10, 11] rfl
  have hD : va_D A (wC G a fm fh fw fb fc fd fr fp n k z t kn pl lf pn ++ wMd G b gc gd gw gf gp ga gb gh gg gx ge n k z t kn pl lf pn) := hD.sub [12, 13, 14, 15, 16, 17, 18, 19, 20, 21, 22, 0, 1, 2, 3, 4, 5, 6, 7, 8, 9, 10, 11] (by decide) rfl
  refine lv_aload_n hx hb dL_law_423 rfl (lv_at hl 2 rfl) ?_
  refine lv_aload_n hx hb dL_law_424 rfl (lv_at hl 0 rfl) ?_
  refine lv_iload_n hx hb dL_law_425 rfl (lv_at hl 3 rfl) ?_
  refine lv_iconst (v := nI 1) hx hb dL_law_426 (by decide) ?_
  refine ad_N hx hb i 1 dL_law_427 ?_
  refine sl_N hx hb hX9 hbl hbA hS (i + 1) (by omega) hL dL_law_428 ?_
  refine call_Vi (wr := wC G a fm fh fw fb fc fd fr fp n k z t kn pl lf pn) [.int (xs (i + 1))] [.int r1] ⟨hx, hb, hml, hown, hts⟩ hK hX hA hP hD hS (m_may l G _ b gc gd gw gf gp ga gb gh gg gx ge n k z t kn pl lf pn (xs (i + 1)) (by omega) (by omega) (by omega) (by omega) (by omega) (by omega) (by omega) hga hgb) (cwV 1 hts gL_law_X3_may rfl rfl rfl (by decide +kernel) ⟨Nat.le_of_ble_eq_true rfl, Nat.le_of_ble_eq_true rfl⟩) 3 11 rfl rfl rfl [11, 12, 13, 14, 15, 16, 17, 18, 19, 20, 21, 22] [0, 1, 2, 3, 4, 5, 6, 7, 8, 9, 10] rfl rfl (by decide) (by decide) (by decide) rfl hl.1 (Nat.le_of_ble_eq_true rfl) dL_law_429 ⟨Nat.le_of_ble_eq_true rfl, Nat.le_of_ble_eq_true rfl⟩ (fun r2 u H locs hw2 hP hD hS => ?_)
  have hP : va_P G.1 vwCl (wC G a fm fh fw fb fc fd fr fp n k z t kn pl lf pn ++ wMd G b gc gd gw gf gp ga gb gh gg gx ge n k z t kn pl lf pn) H := hP
  have hD : va_D A (wC G a fm fh fw fb fc fd fr fp n k z t kn pl lf pn ++ wMd G b gc gd gw gf gp ga gb gh gg gx ge n k z t kn pl lf pn) := hD
  have er := hw1.trans ((congrArg bI (may_eq hrel.2.2.2.2.1 _)).trans hw2.symm)
  refine lv_icmp_eq (tgt := 677) hx hb dL_law_432 (by decide) (fun _ => ?_) (fun c9 => absurd er c9)
  exact kk _ _ _ _ _ _ _ _ _ _ _ _ _ _ _ _ _ _ _ _ _ _ _ _ _ _ _ _ _ hrel hga hgb hP hD hS
set_option maxHeartbeats 4000000 in
set_option maxRecDepth 100000 in
theorem law_find {p : Program} {l : Launch} {e : Env} {s : State} {m : MethodId} {args : Array Value} {below : List Frame} {meth : Method} {c : Code} {A : Nat → Prop} {Q : State → Prop} {G : gG} {q9 L : Nat} {xs : Nat → Int32} {ls : Array Slot} {a b : Nat → Nat} (hx : p.tables.exec = Jvm.exec) (hb : c.code = cL_law) (hml : c.maxLocals = 4) (hown : s.vm.findClass RL = some m.cls) (hts : ∀ w ∈ wsL_law, w.before args s = true) (hA : ∀ q : Nat, s.heap.size ≤ q → A q) (hK : va_K G.1 vwCl (gT G) s) (hX : st_X G A s s.heap) (hX9 : va_X q9 L xs s s.heap) (hbl : q9 < s.heap.size) (hbA : ¬ A q9) (hL : L ≤ 2049) {i : Nat} (hi : 1 ≤ i) (hiL : i + 4 ≤ L) (hl : lv_has ls 4 [(0, .ref q9), (1, .ref (a 0)), (2, .ref (b 0)), (3, .int (nI i))]) {fm fh fw fb fc fd fr fp : Nat → Int32} {gc gd gw gf gp ga gb gh gg gx ge : Nat → Int32} {n k z t : Nat} {kn : Int32} {pl lf pn : Nat} {H : Heap} {locs : List Loc} (hrel : Rel fb fc fd fr fp n k z t kn pl lf pn gc gd gw gf gp) (hga : ∀ j, j < 64 → ga j = st_K j) (hgb : ∀ j, j < 8 → gb j = st_S j) (hP : va_P G.1 vwCl (wC G a fm fh fw fb fc fd fr fp n k z t kn pl lf pn ++ wMd G b gc gd gw gf gp ga gb gh gg gx ge n k z t kn pl lf pn) H) (hD : va_D A (wC G a fm fh fw fb fc fd fr fp n k z t kn pl lf pn ++ wMd G b gc gd gw gf gp ga gb gh gg gx ge n k z t kn pl lf pn)) (hS : va_S A s.heap H locs)
    (kk : ∀ (fm fh fw fb fc fd fr fp : Nat → Int32) (gc gd gw gf gp ga gb gh gg gx ge : Nat → Int32) (n k z t : Nat) (kn : Int32) (pl lf pn : Nat) (H : Heap) (locs : List Loc), Rel fb fc fd fr fp n k z t kn pl lf pn gc gd gw gf gp → (∀ j, j < 64 → ga j = st_K j) → (∀ j, j < 8 → gb j = st_S j) → va_P G.1 vwCl (wC G a fm fh fw fb fc fd fr fp n k z t kn pl lf pn ++ wMd G b gc gd gw gf gp ga gb gh gg gx ge n k z t kn pl lf pn) H → va_D A (wC G a fm fh fw fb fc fd fr fp n k z t kn pl lf pn ++ wMd G b gc gd gw gf gp ga gb gh gg gx ge n k z t kn pl lf pn) → va_S A s.heap H locs → W p l e room_1 s m args below meth c H locs 23 8649 Q (F0 m 677 ls [])) : W p l e room_1 s m args below meth c H locs 23 8649 Q (F0 m 437 ls []) := by
  obtain ⟨hB1, hB2, hB3, hB4, hB5, hB6, hB7⟩ := hrel.1
  refine lv_aload_n hx hb dL_law_437 rfl (lv_at hl 1 rfl) ?_
  refine lv_aload_n hx hb dL_law_438 rfl (lv_at hl 0 rfl) ?_
  refine lv_iload_n hx hb dL_law_439 rfl (lv_at hl 3 rfl) ?_
  refine lv_iconst (v := nI 1) hx hb dL_law_440 (by decide) ?_
  refine ad_N hx hb i 1 dL_law_441 ?_
  refine sl_N hx hb hX9 hbl hbA hS (i + 1) (by omega) hL dL_law_442 ?_
  refine call_Vi (wr := wMd G b gc gd gw gf gp ga gb gh gg gx ge n k z t kn pl lf pn) [.int (xs (i + 1))] [] ⟨hx, hb, hml, hown, hts⟩ hK hX hA hP hD hS (c_find l G _ a fm fh fw fb fc fd fr fp n k z t kn pl lf pn (xs (i + 1)) (by omega) (by omega) (by omega) (by omega) (by omega) (by omega) (by omega)) (cwV 1 hts gL_law_X2_find rfl rfl rfl (by decide +kernel) ⟨Nat.le_of_ble_eq_true rfl, Nat.le_of_ble_eq_true rfl⟩) 2 0 rfl rfl rfl [0, 1, 2, 3, 4, 5, 6, 7, 8, 9, 10] [11, 12, 13, 14, 15, 16, 17, 18, 19, 20, 21, 22] rfl rfl (by decide) (by decide) (by decide) rfl hl.1 (Nat.le_of_ble_eq_true rfl) dL_law_443 ⟨Nat.le_of_ble_eq_true rfl, Nat.le_of_ble_eq_true rfl⟩ (fun r1 u H locs hw1 hP hD hS => ?_)
  have hP : va_P G.1 vwCl (wC G a fm fh fw fb fc fd fr fp n k z t kn pl lf pn ++ wMd G b gc gd gw gf gp ga gb gh gg gx ge n k z t kn pl lf pn) H := hP.sub [12, 13, 14, 15, 16, 17, 18, 19, 20, 21, 22, 0, 1, 2, 3, 4, 5, 6, 7, 8, 9, 10, 11] rfl
  have hD : va_D A (wC G a fm fh fw fb fc fd fr fp n k z t kn pl lf pn ++ wMd G b gc gd gw gf gp ga gb gh gg gx ge n k z t kn pl lf pn) := hD.sub [12, 13, 14, 15, 16, 17, 18, 19, 20, 21, 22, 0, 1, 2, 3, 4, 5, 6, 7, 8, 9, 10, 11] (by decide) rfl
  refine lv_aload_n hx hb dL_law_446 rfl (lv_at hl 2 rfl) ?_
  refine lv_aload_n hx hb dL_law_447 rfl (lv_at hl 0 rfl) ?_
  refine lv_iload_n hx hb dL_law_448 rfl (lv_at hl 3 rfl) ?_
  refine lv_iconst (v := nI 1) hx hb dL_law_449 (by decide) ?_
  refine ad_N hx hb i 1 dL_law_450 ?_
  refine sl_N hx hb hX9 hbl hbA hS (i + 1) (by omega) hL dL_law_451 ?_
  refine call_Vi (wr := wC G a fm fh fw fb fc fd fr fp n k z t kn pl lf pn) [.int (xs (i + 1))] [.int r1] ⟨hx, hb, hml, hown, hts⟩ hK hX hA hP hD hS (m_find l G _ b gc gd gw gf gp ga gb gh gg gx ge n k z t kn pl lf pn (xs (i + 1)) (by omega) (by omega) (by omega) (by omega) (by omega) (by omega) (by omega) hga hgb) (cwV 1 hts gL_law_X3_find rfl rfl rfl (by decide +kernel) ⟨Nat.le_of_ble_eq_true rfl, Nat.le_of_ble_eq_true rfl⟩) 3 11 rfl rfl rfl [11, 12, 13, 14, 15, 16, 17, 18, 19, 20, 21, 22] [0, 1, 2, 3, 4, 5, 6, 7, 8, 9, 10] rfl rfl (by decide) (by decide) (by decide) rfl hl.1 (Nat.le_of_ble_eq_true rfl) dL_law_452 ⟨Nat.le_of_ble_eq_true rfl, Nat.le_of_ble_eq_true rfl⟩ (fun r2 u H locs hw2 hP hD hS => ?_)
  have hP : va_P G.1 vwCl (wC G a fm fh fw fb fc fd fr fp n k z t kn pl lf pn ++ wMd G b gc gd gw gf gp ga gb gh gg gx ge n k z t kn pl lf pn) H := hP
  have hD : va_D A (wC G a fm fh fw fb fc fd fr fp n k z t kn pl lf pn ++ wMd G b gc gd gw gf gp ga gb gh gg gx ge n k z t kn pl lf pn) := hD
  have er := rel_find hrel hw1 hw2
  refine lv_icmp_eq (tgt := 677) hx hb dL_law_455 (by decide) (fun _ => ?_) (fun c9 => absurd er c9)
  exact kk _ _ _ _ _ _ _ _ _ _ _ _ _ _ _ _ _ _ _ _ _ _ _ _ _ _ _ _ _ hrel hga hgb hP hD hS
set_option maxHeartbeats 4000000 in
set_option maxRecDepth 100000 in
theorem law_stir {p : Program} {l : Launch} {e : Env} {s : State} {m : MethodId} {args : Array Value} {below : List Frame} {meth : Method} {c : Code} {A : Nat → Prop} {Q : State → Prop} {G : gG} {q9 L : Nat} {xs : Nat → Int32} {ls : Array Slot} {a b : Nat → Nat} (hx : p.tables.exec = Jvm.exec) (hb : c.code = cL_law) (hml : c.maxLocals = 4) (hown : s.vm.findClass RL = some m.cls) (hts : ∀ w ∈ wsL_law, w.before args s = true) (hA : ∀ q : Nat, s.heap.size ≤ q → A q) (hK : va_K G.1 vwCl (gT G) s) (hX : st_X G A s s.heap) (hX9 : va_X q9 L xs s s.heap) (hbl : q9 < s.heap.size) (hbA : ¬ A q9) (hL : L ≤ 2049) {i : Nat} (hi : 1 ≤ i) (hiL : i + 4 ≤ L) (hl : lv_has ls 4 [(0, .ref q9), (1, .ref (a 0)), (2, .ref (b 0)), (3, .int (nI i))]) {fm fh fw fb fc fd fr fp : Nat → Int32} {gc gd gw gf gp ga gb gh gg gx ge : Nat → Int32} {n k z t : Nat} {kn : Int32} {pl lf pn : Nat} {H : Heap} {locs : List Loc} (hrel : Rel fb fc fd fr fp n k z t kn pl lf pn gc gd gw gf gp) (hga : ∀ j, j < 64 → ga j = st_K j) (hgb : ∀ j, j < 8 → gb j = st_S j) (hP : va_P G.1 vwCl (wC G a fm fh fw fb fc fd fr fp n k z t kn pl lf pn ++ wMd G b gc gd gw gf gp ga gb gh gg gx ge n k z t kn pl lf pn) H) (hD : va_D A (wC G a fm fh fw fb fc fd fr fp n k z t kn pl lf pn ++ wMd G b gc gd gw gf gp ga gb gh gg gx ge n k z t kn pl lf pn)) (hS : va_S A s.heap H locs)
    (kk : ∀ (fm fh fw fb fc fd fr fp : Nat → Int32) (gc gd gw gf gp ga gb gh gg gx ge : Nat → Int32) (n k z t : Nat) (kn : Int32) (pl lf pn : Nat) (H : Heap) (locs : List Loc), Rel fb fc fd fr fp n k z t kn pl lf pn gc gd gw gf gp → (∀ j, j < 64 → ga j = st_K j) → (∀ j, j < 8 → gb j = st_S j) → va_P G.1 vwCl (wC G a fm fh fw fb fc fd fr fp n k z t kn pl lf pn ++ wMd G b gc gd gw gf gp ga gb gh gg gx ge n k z t kn pl lf pn) H → va_D A (wC G a fm fh fw fb fc fd fr fp n k z t kn pl lf pn ++ wMd G b gc gd gw gf gp ga gb gh gg gx ge n k z t kn pl lf pn) → va_S A s.heap H locs → W p l e room_1 s m args below meth c H locs 23 8649 Q (F0 m 677 ls [])) : W p l e room_1 s m args below meth c H locs 23 8649 Q (F0 m 460 ls []) := by
  obtain ⟨hB1, hB2, hB3, hB4, hB5, hB6, hB7⟩ := hrel.1
  refine lv_aload_n hx hb dL_law_460 rfl (lv_at hl 1 rfl) ?_
  refine lv_aload_n hx hb dL_law_461 rfl (lv_at hl 0 rfl) ?_
  refine lv_iload_n hx hb dL_law_462 rfl (lv_at hl 3 rfl) ?_
  refine lv_iconst (v := nI 1) hx hb dL_law_463 (by decide) ?_
  refine ad_N hx hb i 1 dL_law_464 ?_
  refine sl_N hx hb hX9 hbl hbA hS (i + 1) (by omega) hL dL_law_465 ?_
  refine lv_aload_n hx hb dL_law_466 rfl (lv_at hl 0 rfl) ?_
  refine lv_iload_n hx hb dL_law_467 rfl (lv_at hl 3 rfl) ?_
  refine lv_iconst (v := nI 2) hx hb dL_law_468 (by decide) ?_
  refine ad_N hx hb i 2 dL_law_469 ?_
  refine sl_N hx hb hX9 hbl hbA hS (i + 2) (by omega) hL dL_law_470 ?_
  refine call_Vi (wr := wMd G b gc gd gw gf gp ga gb gh gg gx ge n k z t kn pl lf pn) [.int (xs (i + 1)), .int (xs (i + 2))] [] ⟨hx, hb, hml, hown, hts⟩ hK hX hA hP hD hS (c_stir l G _ a fm fh fw fb fc fd fr fp n k z t kn pl lf pn (xs (i + 1)) (xs (i + 2)) (by omega) (by omega) (by omega) (by omega) (by omega) (by omega) (by omega)) (cwV 2 hts gL_law_X2_stir rfl rfl rfl (by decide +kernel) ⟨Nat.le_of_ble_eq_true rfl, Nat.le_of_ble_eq_true rfl⟩) 2 0 rfl rfl rfl [0, 1, 2, 3, 4, 5, 6, 7, 8, 9, 10] [11, 12, 13, 14, 15, 16, 17, 18, 19, 20, 21, 22] rfl rfl (by decide) (by decide) (by decide) rfl hl.1 (Nat.le_of_ble_eq_true rfl) dL_law_471 ⟨Nat.le_of_ble_eq_true rfl, Nat.le_of_ble_eq_true rfl⟩ (fun r1 u H locs hw1 hP hD hS => ?_)
  have hP : va_P G.1 vwCl (wC G a fm fh fw fb fc fd fr fp n k z t kn pl lf pn ++ wMd G b gc gd gw gf gp ga gb gh gg gx ge n k z t kn pl lf pn) H := hP.sub [12, 13, 14, 15, 16, 17, 18, 19, 20, 21, 22, 0, 1, 2, 3, 4, 5, 6, 7, 8, 9, 10, 11] rfl
  have hD : va_D A (wC G a fm fh fw fb fc fd fr fp n k z t kn pl lf pn ++ wMd G b gc gd gw gf gp ga gb gh gg gx ge n k z t kn pl lf pn) := hD.sub [12, 13, 14, 15, 16, 17, 18, 19, 20, 21, 22, 0, 1, 2, 3, 4, 5, 6, 7, 8, 9, 10, 11] (by decide) rfl
  refine lv_aload_n hx hb dL_law_474 rfl (lv_at hl 2 rfl) ?_
  refine lv_aload_n hx hb dL_law_475 rfl (lv_at hl 0 rfl) ?_
  refine lv_iload_n hx hb dL_law_476 rfl (lv_at hl 3 rfl) ?_
  refine lv_iconst (v := nI 1) hx hb dL_law_477 (by decide) ?_
  refine ad_N hx hb i 1 dL_law_478 ?_
  refine sl_N hx hb hX9 hbl hbA hS (i + 1) (by omega) hL dL_law_479 ?_
  refine lv_aload_n hx hb dL_law_480 rfl (lv_at hl 0 rfl) ?_
  refine lv_iload_n hx hb dL_law_481 rfl (lv_at hl 3 rfl) ?_
  refine lv_iconst (v := nI 2) hx hb dL_law_482 (by decide) ?_
  refine ad_N hx hb i 2 dL_law_483 ?_
  refine sl_N hx hb hX9 hbl hbA hS (i + 2) (by omega) hL dL_law_484 ?_
  refine call_Vi (wr := wC G a fm fh fw fb fc fd fr fp n k z t kn pl lf pn) [.int (xs (i + 1)), .int (xs (i + 2))] [.int r1] ⟨hx, hb, hml, hown, hts⟩ hK hX hA hP hD hS (m_stir l G _ b gc gd gw gf gp ga gb gh gg gx ge n k z t kn pl lf pn (xs (i + 1)) (xs (i + 2)) (by omega) (by omega) (by omega) (by omega) (by omega) (by omega) (by omega) hga hgb) (cwV 2 hts gL_law_X3_stir rfl rfl rfl (by decide +kernel) ⟨Nat.le_of_ble_eq_true rfl, Nat.le_of_ble_eq_true rfl⟩) 3 11 rfl rfl rfl [11, 12, 13, 14, 15, 16, 17, 18, 19, 20, 21, 22] [0, 1, 2, 3, 4, 5, 6, 7, 8, 9, 10] rfl rfl (by decide) (by decide) (by decide) rfl hl.1 (Nat.le_of_ble_eq_true rfl) dL_law_485 ⟨Nat.le_of_ble_eq_true rfl, Nat.le_of_ble_eq_true rfl⟩ (fun r2 u H locs hw2 hP hD hS => ?_)
  have hP : va_P G.1 vwCl (wC G a fm fh fw fb fc fd fr fp n k z t kn pl lf pn ++ wMd G b gc gd gw gf gp ga gb gh gg gx ge n k z t kn pl lf pn) H := hP
  have hD : va_D A (wC G a fm fh fw fb fc fd fr fp n k z t kn pl lf pn ++ wMd G b gc gd gw gf gp ga gb gh gg gx ge n k z t kn pl lf pn) := hD
  have er := hw1.trans hw2.symm
  refine lv_icmp_eq (tgt := 677) hx hb dL_law_488 (by decide) (fun _ => ?_) (fun c9 => absurd er c9)
  exact kk _ _ _ _ _ _ _ _ _ _ _ _ _ _ _ _ _ _ _ _ _ _ _ _ _ _ _ _ _ hrel hga hgb hP hD hS
set_option maxHeartbeats 4000000 in
set_option maxRecDepth 100000 in
theorem law_begin {p : Program} {l : Launch} {e : Env} {s : State} {m : MethodId} {args : Array Value} {below : List Frame} {meth : Method} {c : Code} {A : Nat → Prop} {Q : State → Prop} {G : gG} {q9 L : Nat} {xs : Nat → Int32} {ls : Array Slot} {a b : Nat → Nat} (hx : p.tables.exec = Jvm.exec) (hb : c.code = cL_law) (hml : c.maxLocals = 4) (hown : s.vm.findClass RL = some m.cls) (hts : ∀ w ∈ wsL_law, w.before args s = true) (hA : ∀ q : Nat, s.heap.size ≤ q → A q) (hK : va_K G.1 vwCl (gT G) s) (hX : st_X G A s s.heap) (hX9 : va_X q9 L xs s s.heap) (hbl : q9 < s.heap.size) (hbA : ¬ A q9) (hL : L ≤ 2049) {i : Nat} (hi : 1 ≤ i) (hiL : i + 4 ≤ L) (hl : lv_has ls 4 [(0, .ref q9), (1, .ref (a 0)), (2, .ref (b 0)), (3, .int (nI i))]) {fm fh fw fb fc fd fr fp : Nat → Int32} {gc gd gw gf gp ga gb gh gg gx ge : Nat → Int32} {n k z t : Nat} {kn : Int32} {pl lf pn : Nat} {H : Heap} {locs : List Loc} (hrel : Rel fb fc fd fr fp n k z t kn pl lf pn gc gd gw gf gp) (hga : ∀ j, j < 64 → ga j = st_K j) (hgb : ∀ j, j < 8 → gb j = st_S j) (hP : va_P G.1 vwCl (wC G a fm fh fw fb fc fd fr fp n k z t kn pl lf pn ++ wMd G b gc gd gw gf gp ga gb gh gg gx ge n k z t kn pl lf pn) H) (hD : va_D A (wC G a fm fh fw fb fc fd fr fp n k z t kn pl lf pn ++ wMd G b gc gd gw gf gp ga gb gh gg gx ge n k z t kn pl lf pn)) (hS : va_S A s.heap H locs)
    (kk : ∀ (fm fh fw fb fc fd fr fp : Nat → Int32) (gc gd gw gf gp ga gb gh gg gx ge : Nat → Int32) (n k z t : Nat) (kn : Int32) (pl lf pn : Nat) (H : Heap) (locs : List Loc), Rel fb fc fd fr fp n k z t kn pl lf pn gc gd gw gf gp → (∀ j, j < 64 → ga j = st_K j) → (∀ j, j < 8 → gb j = st_S j) → va_P G.1 vwCl (wC G a fm fh fw fb fc fd fr fp n k z t kn pl lf pn ++ wMd G b gc gd gw gf gp ga gb gh gg gx ge n k z t kn pl lf pn) H → va_D A (wC G a fm fh fw fb fc fd fr fp n k z t kn pl lf pn ++ wMd G b gc gd gw gf gp ga gb gh gg gx ge n k z t kn pl lf pn) → va_S A s.heap H locs → W p l e room_1 s m args below meth c H locs 23 8649 Q (F0 m 677 ls [])) : W p l e room_1 s m args below meth c H locs 23 8649 Q (F0 m 493 ls []) := by
  obtain ⟨hB1, hB2, hB3, hB4, hB5, hB6, hB7⟩ := hrel.1
  refine lv_aload_n hx hb dL_law_493 rfl (lv_at hl 1 rfl) ?_
  refine call_Vi (wr := wMd G b gc gd gw gf gp ga gb gh gg gx ge n k z t kn pl lf pn) [] [] ⟨hx, hb, hml, hown, hts⟩ hK hX hA hP hD hS (c_begin l G _ a fm fh fw fb fc fd fr fp n k z t kn pl lf pn  (by omega) (by omega) (by omega) (by omega) (by omega) (by omega) (by omega)) (cwV 0 hts gL_law_X2_begin rfl rfl rfl (by decide +kernel) ⟨Nat.le_of_ble_eq_true rfl, Nat.le_of_ble_eq_true rfl⟩) 2 0 rfl rfl rfl [0, 1, 2, 3, 4, 5, 6, 7, 8, 9, 10] [11, 12, 13, 14, 15, 16, 17, 18, 19, 20, 21, 22] rfl rfl (by decide) (by decide) (by decide) rfl hl.1 (Nat.le_of_ble_eq_true rfl) dL_law_494 ⟨Nat.le_of_ble_eq_true rfl, Nat.le_of_ble_eq_true rfl⟩ (fun r1 u H locs hw1 hP hD hS => ?_)
  have hP : va_P G.1 vwCl (wC G a fm fh fw fb fc fd fr fp n k z t kn 0 lf pn ++ wMd G b gc gd gw gf gp ga gb gh gg gx ge n k z t kn pl lf pn) H := hP.sub [12, 13, 14, 15, 16, 17, 18, 19, 20, 21, 22, 0, 1, 2, 3, 4, 5, 6, 7, 8, 9, 10, 11] rfl
  have hD : va_D A (wC G a fm fh fw fb fc fd fr fp n k z t kn 0 lf pn ++ wMd G b gc gd gw gf gp ga gb gh gg gx ge n k z t kn pl lf pn) := hD.sub [12, 13, 14, 15, 16, 17, 18, 19, 20, 21, 22, 0, 1, 2, 3, 4, 5, 6, 7, 8, 9, 10, 11] (by decide) rfl
  refine lv_aload_n hx hb dL_law_497 rfl (lv_at hl 2 rfl) ?_
  refine call_Vi (wr := wC G a fm fh fw fb fc fd fr fp n k z t kn 0 lf pn) [] [.int r1] ⟨hx, hb, hml, hown, hts⟩ hK hX hA hP hD hS (m_begin l G _ b gc gd gw gf gp ga gb gh gg gx ge n k z t kn pl lf pn  (by omega) (by omega) (by omega) (by omega) (by omega) (by omega) (by omega) hga hgb) (cwV 0 hts gL_law_X3_begin rfl rfl rfl (by decide +kernel) ⟨Nat.le_of_ble_eq_true rfl, Nat.le_of_ble_eq_true rfl⟩) 3 11 rfl rfl rfl [11, 12, 13, 14, 15, 16, 17, 18, 19, 20, 21, 22] [0, 1, 2, 3, 4, 5, 6, 7, 8, 9, 10] rfl rfl (by decide) (by decide) (by decide) rfl hl.1 (Nat.le_of_ble_eq_true rfl) dL_law_498 ⟨Nat.le_of_ble_eq_true rfl, Nat.le_of_ble_eq_true rfl⟩ (fun r2 u H locs hw2 hP hD hS => ?_)
  have hP : va_P G.1 vwCl (wC G a fm fh fw fb fc fd fr fp n k z t kn 0 lf pn ++ wMd G b gc gd gw gf gp ga gb gh gg gx ge n k z t kn 0 lf pn) H := hP
  have hD : va_D A (wC G a fm fh fw fb fc fd fr fp n k z t kn 0 lf pn ++ wMd G b gc gd gw gf gp ga gb gh gg gx ge n k z t kn 0 lf pn) := hD
  have er := hw1.trans hw2.symm; have hrel := rel_begin hrel
  refine lv_icmp_eq (tgt := 677) hx hb dL_law_501 (by decide) (fun _ => ?_) (fun c9 => absurd er c9)
  exact kk _ _ _ _ _ _ _ _ _ _ _ _ _ _ _ _ _ _ _ _ _ _ _ _ _ _ _ _ _ hrel hga hgb hP hD hS
set_option maxHeartbeats 4000000 in
set_option maxRecDepth 100000 in
theorem law_audit {p : Program} {l : Launch} {e : Env} {s : State} {m : MethodId} {args : Array Value} {below : List Frame} {meth : Method} {c : Code} {A : Nat → Prop} {Q : State → Prop} {G : gG} {q9 L : Nat} {xs : Nat → Int32} {ls : Array Slot} {a b : Nat → Nat} (hx : p.tables.exec = Jvm.exec) (hb : c.code = cL_law) (hml : c.maxLocals = 4) (hown : s.vm.findClass RL = some m.cls) (hts : ∀ w ∈ wsL_law, w.before args s = true) (hA : ∀ q : Nat, s.heap.size ≤ q → A q) (hK : va_K G.1 vwCl (gT G) s) (hX : st_X G A s s.heap) (hX9 : va_X q9 L xs s s.heap) (hbl : q9 < s.heap.size) (hbA : ¬ A q9) (hL : L ≤ 2049) {i : Nat} (hi : 1 ≤ i) (hiL : i + 4 ≤ L) (hl : lv_has ls 4 [(0, .ref q9), (1, .ref (a 0)), (2, .ref (b 0)), (3, .int (nI i))]) {fm fh fw fb fc fd fr fp : Nat → Int32} {gc gd gw gf gp ga gb gh gg gx ge : Nat → Int32} {n k z t : Nat} {kn : Int32} {pl lf pn : Nat} {H : Heap} {locs : List Loc} (hrel : Rel fb fc fd fr fp n k z t kn pl lf pn gc gd gw gf gp) (hga : ∀ j, j < 64 → ga j = st_K j) (hgb : ∀ j, j < 8 → gb j = st_S j) (hP : va_P G.1 vwCl (wC G a fm fh fw fb fc fd fr fp n k z t kn pl lf pn ++ wMd G b gc gd gw gf gp ga gb gh gg gx ge n k z t kn pl lf pn) H) (hD : va_D A (wC G a fm fh fw fb fc fd fr fp n k z t kn pl lf pn ++ wMd G b gc gd gw gf gp ga gb gh gg gx ge n k z t kn pl lf pn)) (hS : va_S A s.heap H locs)
    (kk : ∀ (fm fh fw fb fc fd fr fp : Nat → Int32) (gc gd gw gf gp ga gb gh gg gx ge : Nat → Int32) (n k z t : Nat) (kn : Int32) (pl lf pn : Nat) (H : Heap) (locs : List Loc), Rel fb fc fd fr fp n k z t kn pl lf pn gc gd gw gf gp → (∀ j, j < 64 → ga j = st_K j) → (∀ j, j < 8 → gb j = st_S j) → va_P G.1 vwCl (wC G a fm fh fw fb fc fd fr fp n k z t kn pl lf pn ++ wMd G b gc gd gw gf gp ga gb gh gg gx ge n k z t kn pl lf pn) H → va_D A (wC G a fm fh fw fb fc fd fr fp n k z t kn pl lf pn ++ wMd G b gc gd gw gf gp ga gb gh gg gx ge n k z t kn pl lf pn) → va_S A s.heap H locs → W p l e room_1 s m args below meth c H locs 23 8649 Q (F0 m 677 ls [])) : W p l e room_1 s m args below meth c H locs 23 8649 Q (F0 m 506 ls []) := by
  obtain ⟨hB1, hB2, hB3, hB4, hB5, hB6, hB7⟩ := hrel.1
  refine lv_aload_n hx hb dL_law_506 rfl (lv_at hl 1 rfl) ?_
  refine lv_aload_n hx hb dL_law_507 rfl (lv_at hl 0 rfl) ?_
  refine lv_iload_n hx hb dL_law_508 rfl (lv_at hl 3 rfl) ?_
  refine lv_iconst (v := nI 1) hx hb dL_law_509 (by decide) ?_
  refine ad_N hx hb i 1 dL_law_510 ?_
  refine sl_N hx hb hX9 hbl hbA hS (i + 1) (by omega) hL dL_law_511 ?_
  refine call_Vi (wr := wMd G b gc gd gw gf gp ga gb gh gg gx ge n k z t kn pl lf pn) [.int (xs (i + 1))] [] ⟨hx, hb, hml, hown, hts⟩ hK hX hA hP hD hS (c_audit l G _ a fm fh fw fb fc fd fr fp n k z t kn pl lf pn (xs (i + 1)) (by omega) (by omega) (by omega) (by omega) (by omega) (by omega) (by omega)) (cwV 1 hts gL_law_X2_audit rfl rfl rfl (by decide +kernel) ⟨Nat.le_of_ble_eq_true rfl, Nat.le_of_ble_eq_true rfl⟩) 2 0 rfl rfl rfl [0, 1, 2, 3, 4, 5, 6, 7, 8, 9, 10] [11, 12, 13, 14, 15, 16, 17, 18, 19, 20, 21, 22] rfl rfl (by decide) (by decide) (by decide) rfl hl.1 (Nat.le_of_ble_eq_true rfl) dL_law_512 ⟨Nat.le_of_ble_eq_true rfl, Nat.le_of_ble_eq_true rfl⟩ (fun r1 u H locs hw1 hP hD hS => ?_)
  obtain ⟨fm1, fh1, fw1, pl1, lf1⟩ := u
  try dsimp only at hw1
  have hP : va_P G.1 vwCl (wC G a fm1 fh1 fw1 fb fc fd fr fp n k z t kn pl1 lf1 pn ++ wMd G b gc gd gw gf gp ga gb gh gg gx ge n k z t kn pl lf pn) H := hP.sub [12, 13, 14, 15, 16, 17, 18, 19, 20, 21, 22, 0, 1, 2, 3, 4, 5, 6, 7, 8, 9, 10, 11] rfl
  have hD : va_D A (wC G a fm1 fh1 fw1 fb fc fd fr fp n k z t kn pl1 lf1 pn ++ wMd G b gc gd gw gf gp ga gb gh gg gx ge n k z t kn pl lf pn) := hD.sub [12, 13, 14, 15, 16, 17, 18, 19, 20, 21, 22, 0, 1, 2, 3, 4, 5, 6, 7, 8, 9, 10, 11] (by decide) rfl
  refine lv_aload_n hx hb dL_law_515 rfl (lv_at hl 2 rfl) ?_
  refine lv_aload_n hx hb dL_law_516 rfl (lv_at hl 0 rfl) ?_
  refine lv_iload_n hx hb dL_law_517 rfl (lv_at hl 3 rfl) ?_
  refine lv_iconst (v := nI 1) hx hb dL_law_518 (by decide) ?_
  refine ad_N hx hb i 1 dL_law_519 ?_
  refine sl_N hx hb hX9 hbl hbA hS (i + 1) (by omega) hL dL_law_520 ?_
  refine call_Vi (wr := wC G a fm1 fh1 fw1 fb fc fd fr fp n k z t kn pl1 lf1 pn) [.int (xs (i + 1))] [.int r1] ⟨hx, hb, hml, hown, hts⟩ hK hX hA hP hD hS (m_audit l G _ b gc gd gw gf gp ga gb gh gg gx ge n k z t kn pl lf pn (xs (i + 1)) (by omega) (by omega) (by omega) (by omega) (by omega) (by omega) (by omega) hga hgb) (cwV 1 hts gL_law_X3_audit rfl rfl rfl (by decide +kernel) ⟨Nat.le_of_ble_eq_true rfl, Nat.le_of_ble_eq_true rfl⟩) 3 11 rfl rfl rfl [11, 12, 13, 14, 15, 16, 17, 18, 19, 20, 21, 22] [0, 1, 2, 3, 4, 5, 6, 7, 8, 9, 10] rfl rfl (by decide) (by decide) (by decide) rfl hl.1 (Nat.le_of_ble_eq_true rfl) dL_law_521 ⟨Nat.le_of_ble_eq_true rfl, Nat.le_of_ble_eq_true rfl⟩ (fun r2 u H locs hw2 hP hD hS => ?_)
  obtain ⟨gh2, gg2, gx2, ge2, pl2, lf2⟩ := u
  try dsimp only at hw2
  have hP : va_P G.1 vwCl (wC G a fm1 fh1 fw1 fb fc fd fr fp n k z t kn pl1 lf1 pn ++ wMd G b gc gd gw gf gp ga gb gh2 gg2 gx2 ge2 n k z t kn pl2 lf2 pn) H := hP
  have hD : va_D A (wC G a fm1 fh1 fw1 fb fc fd fr fp n k z t kn pl1 lf1 pn ++ wMd G b gc gd gw gf gp ga gb gh2 gg2 gx2 ge2 n k z t kn pl2 lf2 pn) := hD
  obtain ⟨er, ⟨rfl, rfl⟩, hrel⟩ := rel_audit hrel hw1 hw2
  refine lv_icmp_eq (tgt := 677) hx hb dL_law_524 (by decide) (fun _ => ?_) (fun c9 => absurd er c9)
  exact kk _ _ _ _ _ _ _ _ _ _ _ _ _ _ _ _ _ _ _ _ _ _ _ _ _ _ _ _ _ hrel hga hgb hP hD hS
set_option maxHeartbeats 4000000 in
set_option maxRecDepth 100000 in
theorem law_fault {p : Program} {l : Launch} {e : Env} {s : State} {m : MethodId} {args : Array Value} {below : List Frame} {meth : Method} {c : Code} {A : Nat → Prop} {Q : State → Prop} {G : gG} {q9 L : Nat} {xs : Nat → Int32} {ls : Array Slot} {a b : Nat → Nat} (hx : p.tables.exec = Jvm.exec) (hb : c.code = cL_law) (hml : c.maxLocals = 4) (hown : s.vm.findClass RL = some m.cls) (hts : ∀ w ∈ wsL_law, w.before args s = true) (hA : ∀ q : Nat, s.heap.size ≤ q → A q) (hK : va_K G.1 vwCl (gT G) s) (hX : st_X G A s s.heap) (hX9 : va_X q9 L xs s s.heap) (hbl : q9 < s.heap.size) (hbA : ¬ A q9) (hL : L ≤ 2049) {i : Nat} (hi : 1 ≤ i) (hiL : i + 4 ≤ L) (hl : lv_has ls 4 [(0, .ref q9), (1, .ref (a 0)), (2, .ref (b 0)), (3, .int (nI i))]) {fm fh fw fb fc fd fr fp : Nat → Int32} {gc gd gw gf gp ga gb gh gg gx ge : Nat → Int32} {n k z t : Nat} {kn : Int32} {pl lf pn : Nat} {H : Heap} {locs : List Loc} (hrel : Rel fb fc fd fr fp n k z t kn pl lf pn gc gd gw gf gp) (hga : ∀ j, j < 64 → ga j = st_K j) (hgb : ∀ j, j < 8 → gb j = st_S j) (hP : va_P G.1 vwCl (wC G a fm fh fw fb fc fd fr fp n k z t kn pl lf pn ++ wMd G b gc gd gw gf gp ga gb gh gg gx ge n k z t kn pl lf pn) H) (hD : va_D A (wC G a fm fh fw fb fc fd fr fp n k z t kn pl lf pn ++ wMd G b gc gd gw gf gp ga gb gh gg gx ge n k z t kn pl lf pn)) (hS : va_S A s.heap H locs)
    (kk : ∀ (fm fh fw fb fc fd fr fp : Nat → Int32) (gc gd gw gf gp ga gb gh gg gx ge : Nat → Int32) (n k z t : Nat) (kn : Int32) (pl lf pn : Nat) (H : Heap) (locs : List Loc), Rel fb fc fd fr fp n k z t kn pl lf pn gc gd gw gf gp → (∀ j, j < 64 → ga j = st_K j) → (∀ j, j < 8 → gb j = st_S j) → va_P G.1 vwCl (wC G a fm fh fw fb fc fd fr fp n k z t kn pl lf pn ++ wMd G b gc gd gw gf gp ga gb gh gg gx ge n k z t kn pl lf pn) H → va_D A (wC G a fm fh fw fb fc fd fr fp n k z t kn pl lf pn ++ wMd G b gc gd gw gf gp ga gb gh gg gx ge n k z t kn pl lf pn) → va_S A s.heap H locs → W p l e room_1 s m args below meth c H locs 23 8649 Q (F0 m 677 ls [])) : W p l e room_1 s m args below meth c H locs 23 8649 Q (F0 m 529 ls []) := by
  obtain ⟨hB1, hB2, hB3, hB4, hB5, hB6, hB7⟩ := hrel.1
  refine lv_aload_n hx hb dL_law_529 rfl (lv_at hl 1 rfl) ?_
  refine call_Vi (wr := wMd G b gc gd gw gf gp ga gb gh gg gx ge n k z t kn pl lf pn) [] [] ⟨hx, hb, hml, hown, hts⟩ hK hX hA hP hD hS (c_fault l G _ a fm fh fw fb fc fd fr fp n k z t kn pl lf pn  (by omega) (by omega) (by omega) (by omega) (by omega) (by omega) (by omega)) (cwV 0 hts gL_law_X2_fault rfl rfl rfl (by decide +kernel) ⟨Nat.le_of_ble_eq_true rfl, Nat.le_of_ble_eq_true rfl⟩) 2 0 rfl rfl rfl [0, 1, 2, 3, 4, 5, 6, 7, 8, 9, 10] [11, 12, 13, 14, 15, 16, 17, 18, 19, 20, 21, 22] rfl rfl (by decide) (by decide) (by decide) rfl hl.1 (Nat.le_of_ble_eq_true rfl) dL_law_530 ⟨Nat.le_of_ble_eq_true rfl, Nat.le_of_ble_eq_true rfl⟩ (fun r1 u H locs hw1 hP hD hS => ?_)
  have hP : va_P G.1 vwCl (wC G a fm fh fw fb fc fd fr fp n k z t kn pl lf pn ++ wMd G b gc gd gw gf gp ga gb gh gg gx ge n k z t kn pl lf pn) H := hP.sub [12, 13, 14, 15, 16, 17, 18, 19, 20, 21, 22, 0, 1, 2, 3, 4, 5, 6, 7, 8, 9, 10, 11] rfl
  have hD : va_D A (wC G a fm fh fw fb fc fd fr fp n k z t kn pl lf pn ++ wMd G b gc gd gw gf gp ga gb gh gg gx ge n k z t kn pl lf pn) := hD.sub [12, 13, 14, 15, 16, 17, 18, 19, 20, 21, 22, 0, 1, 2, 3, 4, 5, 6, 7, 8, 9, 10, 11] (by decide) rfl
  refine lv_aload_n hx hb dL_law_533 rfl (lv_at hl 2 rfl) ?_
  refine call_Vi (wr := wC G a fm fh fw fb fc fd fr fp n k z t kn pl lf pn) [] [.int r1] ⟨hx, hb, hml, hown, hts⟩ hK hX hA hP hD hS (m_fault l G _ b gc gd gw gf gp ga gb gh gg gx ge n k z t kn pl lf pn  (by omega) (by omega) (by omega) (by omega) (by omega) (by omega) (by omega) hga hgb) (cwV 0 hts gL_law_X3_fault rfl rfl rfl (by decide +kernel) ⟨Nat.le_of_ble_eq_true rfl, Nat.le_of_ble_eq_true rfl⟩) 3 11 rfl rfl rfl [11, 12, 13, 14, 15, 16, 17, 18, 19, 20, 21, 22] [0, 1, 2, 3, 4, 5, 6, 7, 8, 9, 10] rfl rfl (by decide) (by decide) (by decide) rfl hl.1 (Nat.le_of_ble_eq_true rfl) dL_law_534 ⟨Nat.le_of_ble_eq_true rfl, Nat.le_of_ble_eq_true rfl⟩ (fun r2 u H locs hw2 hP hD hS => ?_)
  have hP : va_P G.1 vwCl (wC G a fm fh fw fb fc fd fr fp n k z t kn pl lf pn ++ wMd G b gc gd gw gf gp ga gb gh gg gx ge n k z t kn pl lf pn) H := hP
  have hD : va_D A (wC G a fm fh fw fb fc fd fr fp n k z t kn pl lf pn ++ wMd G b gc gd gw gf gp ga gb gh gg gx ge n k z t kn pl lf pn) := hD
  have er := hw1.trans hw2.symm
  refine lv_icmp_eq (tgt := 677) hx hb dL_law_537 (by decide) (fun _ => ?_) (fun c9 => absurd er c9)
  exact kk _ _ _ _ _ _ _ _ _ _ _ _ _ _ _ _ _ _ _ _ _ _ _ _ _ _ _ _ _ hrel hga hgb hP hD hS
set_option maxHeartbeats 4000000 in
set_option maxRecDepth 100000 in
theorem law_way {p : Program} {l : Launch} {e : Env} {s : State} {m : MethodId} {args : Array Value} {below : List Frame} {meth : Method} {c : Code} {A : Nat → Prop} {Q : State → Prop} {G : gG} {q9 L : Nat} {xs : Nat → Int32} {ls : Array Slot} {a b : Nat → Nat} (hx : p.tables.exec = Jvm.exec) (hb : c.code = cL_law) (hml : c.maxLocals = 4) (hown : s.vm.findClass RL = some m.cls) (hts : ∀ w ∈ wsL_law, w.before args s = true) (hA : ∀ q : Nat, s.heap.size ≤ q → A q) (hK : va_K G.1 vwCl (gT G) s) (hX : st_X G A s s.heap) (hX9 : va_X q9 L xs s s.heap) (hbl : q9 < s.heap.size) (hbA : ¬ A q9) (hL : L ≤ 2049) {i : Nat} (hi : 1 ≤ i) (hiL : i + 4 ≤ L) (hl : lv_has ls 4 [(0, .ref q9), (1, .ref (a 0)), (2, .ref (b 0)), (3, .int (nI i))]) {fm fh fw fb fc fd fr fp : Nat → Int32} {gc gd gw gf gp ga gb gh gg gx ge : Nat → Int32} {n k z t : Nat} {kn : Int32} {pl lf pn : Nat} {H : Heap} {locs : List Loc} (hrel : Rel fb fc fd fr fp n k z t kn pl lf pn gc gd gw gf gp) (hga : ∀ j, j < 64 → ga j = st_K j) (hgb : ∀ j, j < 8 → gb j = st_S j) (hP : va_P G.1 vwCl (wC G a fm fh fw fb fc fd fr fp n k z t kn pl lf pn ++ wMd G b gc gd gw gf gp ga gb gh gg gx ge n k z t kn pl lf pn) H) (hD : va_D A (wC G a fm fh fw fb fc fd fr fp n k z t kn pl lf pn ++ wMd G b gc gd gw gf gp ga gb gh gg gx ge n k z t kn pl lf pn)) (hS : va_S A s.heap H locs)
    (kk : ∀ (fm fh fw fb fc fd fr fp : Nat → Int32) (gc gd gw gf gp ga gb gh gg gx ge : Nat → Int32) (n k z t : Nat) (kn : Int32) (pl lf pn : Nat) (H : Heap) (locs : List Loc), Rel fb fc fd fr fp n k z t kn pl lf pn gc gd gw gf gp → (∀ j, j < 64 → ga j = st_K j) → (∀ j, j < 8 → gb j = st_S j) → va_P G.1 vwCl (wC G a fm fh fw fb fc fd fr fp n k z t kn pl lf pn ++ wMd G b gc gd gw gf gp ga gb gh gg gx ge n k z t kn pl lf pn) H → va_D A (wC G a fm fh fw fb fc fd fr fp n k z t kn pl lf pn ++ wMd G b gc gd gw gf gp ga gb gh gg gx ge n k z t kn pl lf pn) → va_S A s.heap H locs → W p l e room_1 s m args below meth c H locs 23 8649 Q (F0 m 677 ls [])) : W p l e room_1 s m args below meth c H locs 23 8649 Q (F0 m 542 ls []) := by
  obtain ⟨hB1, hB2, hB3, hB4, hB5, hB6, hB7⟩ := hrel.1
  refine lv_aload_n hx hb dL_law_542 rfl (lv_at hl 1 rfl) ?_
  refine lv_aload_n hx hb dL_law_543 rfl (lv_at hl 0 rfl) ?_
  refine lv_iload_n hx hb dL_law_544 rfl (lv_at hl 3 rfl) ?_
  refine lv_iconst (v := nI 1) hx hb dL_law_545 (by decide) ?_
  refine ad_N hx hb i 1 dL_law_546 ?_
  refine sl_N hx hb hX9 hbl hbA hS (i + 1) (by omega) hL dL_law_547 ?_
  refine lv_aload_n hx hb dL_law_548 rfl (lv_at hl 0 rfl) ?_
  refine lv_iload_n hx hb dL_law_549 rfl (lv_at hl 3 rfl) ?_
  refine lv_iconst (v := nI 2) hx hb dL_law_550 (by decide) ?_
  refine ad_N hx hb i 2 dL_law_551 ?_
  refine sl_N hx hb hX9 hbl hbA hS (i + 2) (by omega) hL dL_law_552 ?_
  refine call_Vi (wr := wMd G b gc gd gw gf gp ga gb gh gg gx ge n k z t kn pl lf pn) [.int (xs (i + 1)), .int (xs (i + 2))] [] ⟨hx, hb, hml, hown, hts⟩ hK hX hA hP hD hS (c_way l G _ a fm fh fw fb fc fd fr fp n k z t kn pl lf pn (xs (i + 1)) (xs (i + 2)) (by omega) (by omega) (by omega) (by omega) (by omega) (by omega) (by omega)) (cwV 2 hts gL_law_X2_way rfl rfl rfl (by decide +kernel) ⟨Nat.le_of_ble_eq_true rfl, Nat.le_of_ble_eq_true rfl⟩) 2 0 rfl rfl rfl [0, 1, 2, 3, 4, 5, 6, 7, 8, 9, 10] [11, 12, 13, 14, 15, 16, 17, 18, 19, 20, 21, 22] rfl rfl (by decide) (by decide) (by decide) rfl hl.1 (Nat.le_of_ble_eq_true rfl) dL_law_553 ⟨Nat.le_of_ble_eq_true rfl, Nat.le_of_ble_eq_true rfl⟩ (fun r1 u H locs hw1 hP hD hS => ?_)
  have hP : va_P G.1 vwCl (wC G a fm fh fw fb fc fd fr fp n k z t kn pl lf pn ++ wMd G b gc gd gw gf gp ga gb gh gg gx ge n k z t kn pl lf pn) H := hP.sub [12, 13, 14, 15, 16, 17, 18, 19, 20, 21, 22, 0, 1, 2, 3, 4, 5, 6, 7, 8, 9, 10, 11] rfl
  have hD : va_D A (wC G a fm fh fw fb fc fd fr fp n k z t kn pl lf pn ++ wMd G b gc gd gw gf gp ga gb gh gg gx ge n k z t kn pl lf pn) := hD.sub [12, 13, 14, 15, 16, 17, 18, 19, 20, 21, 22, 0, 1, 2, 3, 4, 5, 6, 7, 8, 9, 10, 11] (by decide) rfl
  refine lv_aload_n hx hb dL_law_556 rfl (lv_at hl 2 rfl) ?_
  refine lv_aload_n hx hb dL_law_557 rfl (lv_at hl 0 rfl) ?_
  refine lv_iload_n hx hb dL_law_558 rfl (lv_at hl 3 rfl) ?_
  refine lv_iconst (v := nI 1) hx hb dL_law_559 (by decide) ?_
  refine ad_N hx hb i 1 dL_law_560 ?_
  refine sl_N hx hb hX9 hbl hbA hS (i + 1) (by omega) hL dL_law_561 ?_
  refine lv_aload_n hx hb dL_law_562 rfl (lv_at hl 0 rfl) ?_
  refine lv_iload_n hx hb dL_law_563 rfl (lv_at hl 3 rfl) ?_
  refine lv_iconst (v := nI 2) hx hb dL_law_564 (by decide) ?_
  refine ad_N hx hb i 2 dL_law_565 ?_
  refine sl_N hx hb hX9 hbl hbA hS (i + 2) (by omega) hL dL_law_566 ?_
  refine call_Vi (wr := wC G a fm fh fw fb fc fd fr fp n k z t kn pl lf pn) [.int (xs (i + 1)), .int (xs (i + 2))] [.int r1] ⟨hx, hb, hml, hown, hts⟩ hK hX hA hP hD hS (m_way l G _ b gc gd gw gf gp ga gb gh gg gx ge n k z t kn pl lf pn (xs (i + 1)) (xs (i + 2)) (by omega) (by omega) (by omega) (by omega) (by omega) (by omega) (by omega) hga hgb) (cwV 2 hts gL_law_X3_way rfl rfl rfl (by decide +kernel) ⟨Nat.le_of_ble_eq_true rfl, Nat.le_of_ble_eq_true rfl⟩) 3 11 rfl rfl rfl [11, 12, 13, 14, 15, 16, 17, 18, 19, 20, 21, 22] [0, 1, 2, 3, 4, 5, 6, 7, 8, 9, 10] rfl rfl (by decide) (by decide) (by decide) rfl hl.1 (Nat.le_of_ble_eq_true rfl) dL_law_567 ⟨Nat.le_of_ble_eq_true rfl, Nat.le_of_ble_eq_true rfl⟩ (fun r2 u H locs hw2 hP hD hS => ?_)
  have hP : va_P G.1 vwCl (wC G a fm fh fw fb fc fd fr fp n k z t kn pl lf pn ++ wMd G b gc gd gw gf gp ga gb gh gg gx ge n k z t kn pl lf pn) H := hP
  have hD : va_D A (wC G a fm fh fw fb fc fd fr fp n k z t kn pl lf pn ++ wMd G b gc gd gw gf gp ga gb gh gg gx ge n k z t kn pl lf pn) := hD
  have er := rel_way (by omega) hw1 hw2
  refine lv_icmp_eq (tgt := 677) hx hb dL_law_570 (by decide) (fun _ => ?_) (fun c9 => absurd er c9)
  exact kk _ _ _ _ _ _ _ _ _ _ _ _ _ _ _ _ _ _ _ _ _ _ _ _ _ _ _ _ _ hrel hga hgb hP hD hS
set_option maxHeartbeats 4000000 in
set_option maxRecDepth 100000 in
theorem law_prove {p : Program} {l : Launch} {e : Env} {s : State} {m : MethodId} {args : Array Value} {below : List Frame} {meth : Method} {c : Code} {A : Nat → Prop} {Q : State → Prop} {G : gG} {q9 L : Nat} {xs : Nat → Int32} {ls : Array Slot} {a b : Nat → Nat} (hx : p.tables.exec = Jvm.exec) (hb : c.code = cL_law) (hml : c.maxLocals = 4) (hown : s.vm.findClass RL = some m.cls) (hts : ∀ w ∈ wsL_law, w.before args s = true) (hA : ∀ q : Nat, s.heap.size ≤ q → A q) (hK : va_K G.1 vwCl (gT G) s) (hX : st_X G A s s.heap) (hX9 : va_X q9 L xs s s.heap) (hbl : q9 < s.heap.size) (hbA : ¬ A q9) (hL : L ≤ 2049) {i : Nat} (hi : 1 ≤ i) (hiL : i + 4 ≤ L) (hl : lv_has ls 4 [(0, .ref q9), (1, .ref (a 0)), (2, .ref (b 0)), (3, .int (nI i))]) {fm fh fw fb fc fd fr fp : Nat → Int32} {gc gd gw gf gp ga gb gh gg gx ge : Nat → Int32} {n k z t : Nat} {kn : Int32} {pl lf pn : Nat} {H : Heap} {locs : List Loc} (hrel : Rel fb fc fd fr fp n k z t kn pl lf pn gc gd gw gf gp) (hga : ∀ j, j < 64 → ga j = st_K j) (hgb : ∀ j, j < 8 → gb j = st_S j) (hP : va_P G.1 vwCl (wC G a fm fh fw fb fc fd fr fp n k z t kn pl lf pn ++ wMd G b gc gd gw gf gp ga gb gh gg gx ge n k z t kn pl lf pn) H) (hD : va_D A (wC G a fm fh fw fb fc fd fr fp n k z t kn pl lf pn ++ wMd G b gc gd gw gf gp ga gb gh gg gx ge n k z t kn pl lf pn)) (hS : va_S A s.heap H locs)
    (kk : ∀ (fm fh fw fb fc fd fr fp : Nat → Int32) (gc gd gw gf gp ga gb gh gg gx ge : Nat → Int32) (n k z t : Nat) (kn : Int32) (pl lf pn : Nat) (H : Heap) (locs : List Loc), Rel fb fc fd fr fp n k z t kn pl lf pn gc gd gw gf gp → (∀ j, j < 64 → ga j = st_K j) → (∀ j, j < 8 → gb j = st_S j) → va_P G.1 vwCl (wC G a fm fh fw fb fc fd fr fp n k z t kn pl lf pn ++ wMd G b gc gd gw gf gp ga gb gh gg gx ge n k z t kn pl lf pn) H → va_D A (wC G a fm fh fw fb fc fd fr fp n k z t kn pl lf pn ++ wMd G b gc gd gw gf gp ga gb gh gg gx ge n k z t kn pl lf pn) → va_S A s.heap H locs → W p l e room_1 s m args below meth c H locs 23 8649 Q (F0 m 677 ls [])) : W p l e room_1 s m args below meth c H locs 23 8649 Q (F0 m 575 ls []) := by
  obtain ⟨hB1, hB2, hB3, hB4, hB5, hB6, hB7⟩ := hrel.1
  refine lv_aload_n hx hb dL_law_575 rfl (lv_at hl 1 rfl) ?_
  refine lv_aload_n hx hb dL_law_576 rfl (lv_at hl 0 rfl) ?_
  refine lv_iload_n hx hb dL_law_577 rfl (lv_at hl 3 rfl) ?_
  refine lv_iconst (v := nI 1) hx hb dL_law_578 (by decide) ?_
  refine ad_N hx hb i 1 dL_law_579 ?_
  refine sl_N hx hb hX9 hbl hbA hS (i + 1) (by omega) hL dL_law_580 ?_
  refine call_Vi (wr := wMd G b gc gd gw gf gp ga gb gh gg gx ge n k z t kn pl lf pn) [.int (xs (i + 1))] [] ⟨hx, hb, hml, hown, hts⟩ hK hX hA hP hD hS (c_prove l G _ a fm fh fw fb fc fd fr fp n k z t kn pl lf pn (xs (i + 1)) (by omega) (by omega) (by omega) (by omega) (by omega) (by omega) (by omega)) (cwV 1 hts gL_law_X2_prove rfl rfl rfl (by decide +kernel) ⟨Nat.le_of_ble_eq_true rfl, Nat.le_of_ble_eq_true rfl⟩) 2 0 rfl rfl rfl [0, 1, 2, 3, 4, 5, 6, 7, 8, 9, 10] [11, 12, 13, 14, 15, 16, 17, 18, 19, 20, 21, 22] rfl rfl (by decide) (by decide) (by decide) rfl hl.1 (Nat.le_of_ble_eq_true rfl) dL_law_581 ⟨Nat.le_of_ble_eq_true rfl, Nat.le_of_ble_eq_true rfl⟩ (fun r1 u H locs hw1 hP hD hS => ?_)
  obtain ⟨fp1, pn1⟩ := u
  try dsimp only at hw1
  have hP : va_P G.1 vwCl (wC G a fm fh fw fb fc fd fr fp1 n k z t kn pl lf pn1 ++ wMd G b gc gd gw gf gp ga gb gh gg gx ge n k z t kn pl lf pn) H := hP.sub [12, 13, 14, 15, 16, 17, 18, 19, 20, 21, 22, 0, 1, 2, 3, 4, 5, 6, 7, 8, 9, 10, 11] rfl
  have hD : va_D A (wC G a fm fh fw fb fc fd fr fp1 n k z t kn pl lf pn1 ++ wMd G b gc gd gw gf gp ga gb gh gg gx ge n k z t kn pl lf pn) := hD.sub [12, 13, 14, 15, 16, 17, 18, 19, 20, 21, 22, 0, 1, 2, 3, 4, 5, 6, 7, 8, 9, 10, 11] (by decide) rfl
  refine lv_aload_n hx hb dL_law_584 rfl (lv_at hl 2 rfl) ?_
  refine lv_aload_n hx hb dL_law_585 rfl (lv_at hl 0 rfl) ?_
  refine lv_iload_n hx hb dL_law_586 rfl (lv_at hl 3 rfl) ?_
  refine lv_iconst (v := nI 1) hx hb dL_law_587 (by decide) ?_
  refine ad_N hx hb i 1 dL_law_588 ?_
  refine sl_N hx hb hX9 hbl hbA hS (i + 1) (by omega) hL dL_law_589 ?_
  refine call_Vi (wr := wC G a fm fh fw fb fc fd fr fp1 n k z t kn pl lf pn1) [.int (xs (i + 1))] [.int r1] ⟨hx, hb, hml, hown, hts⟩ hK hX hA hP hD hS (m_prove l G _ b gc gd gw gf gp ga gb gh gg gx ge n k z t kn pl lf pn (xs (i + 1)) (by omega) (by omega) (by omega) (by omega) (by omega) (by omega) (by omega) hga hgb) (cwV 1 hts gL_law_X3_prove rfl rfl rfl (by decide +kernel) ⟨Nat.le_of_ble_eq_true rfl, Nat.le_of_ble_eq_true rfl⟩) 3 11 rfl rfl rfl [11, 12, 13, 14, 15, 16, 17, 18, 19, 20, 21, 22] [0, 1, 2, 3, 4, 5, 6, 7, 8, 9, 10] rfl rfl (by decide) (by decide) (by decide) rfl hl.1 (Nat.le_of_ble_eq_true rfl) dL_law_590 ⟨Nat.le_of_ble_eq_true rfl, Nat.le_of_ble_eq_true rfl⟩ (fun r2 u H locs hw2 hP hD hS => ?_)
  obtain ⟨gp2, pn2⟩ := u
  try dsimp only at hw2
  have hP : va_P G.1 vwCl (wC G a fm fh fw fb fc fd fr fp1 n k z t kn pl lf pn1 ++ wMd G b gc gd gw gf gp2 ga gb gh gg gx ge n k z t kn pl lf pn2) H := hP
  have hD : va_D A (wC G a fm fh fw fb fc fd fr fp1 n k z t kn pl lf pn1 ++ wMd G b gc gd gw gf gp2 ga gb gh gg gx ge n k z t kn pl lf pn2) := hD
  obtain ⟨er, rfl, hrel⟩ := rel_prove hrel hw1 hw2
  refine lv_icmp_eq (tgt := 677) hx hb dL_law_593 (by decide) (fun _ => ?_) (fun c9 => absurd er c9)
  exact kk _ _ _ _ _ _ _ _ _ _ _ _ _ _ _ _ _ _ _ _ _ _ _ _ _ _ _ _ _ hrel hga hgb hP hD hS
set_option maxHeartbeats 4000000 in
set_option maxRecDepth 100000 in
theorem law_proof {p : Program} {l : Launch} {e : Env} {s : State} {m : MethodId} {args : Array Value} {below : List Frame} {meth : Method} {c : Code} {A : Nat → Prop} {Q : State → Prop} {G : gG} {q9 L : Nat} {xs : Nat → Int32} {ls : Array Slot} {a b : Nat → Nat} (hx : p.tables.exec = Jvm.exec) (hb : c.code = cL_law) (hml : c.maxLocals = 4) (hown : s.vm.findClass RL = some m.cls) (hts : ∀ w ∈ wsL_law, w.before args s = true) (hA : ∀ q : Nat, s.heap.size ≤ q → A q) (hK : va_K G.1 vwCl (gT G) s) (hX : st_X G A s s.heap) (hX9 : va_X q9 L xs s s.heap) (hbl : q9 < s.heap.size) (hbA : ¬ A q9) (hL : L ≤ 2049) {i : Nat} (hi : 1 ≤ i) (hiL : i + 4 ≤ L) (hl : lv_has ls 4 [(0, .ref q9), (1, .ref (a 0)), (2, .ref (b 0)), (3, .int (nI i))]) {fm fh fw fb fc fd fr fp : Nat → Int32} {gc gd gw gf gp ga gb gh gg gx ge : Nat → Int32} {n k z t : Nat} {kn : Int32} {pl lf pn : Nat} {H : Heap} {locs : List Loc} (hrel : Rel fb fc fd fr fp n k z t kn pl lf pn gc gd gw gf gp) (hga : ∀ j, j < 64 → ga j = st_K j) (hgb : ∀ j, j < 8 → gb j = st_S j) (hP : va_P G.1 vwCl (wC G a fm fh fw fb fc fd fr fp n k z t kn pl lf pn ++ wMd G b gc gd gw gf gp ga gb gh gg gx ge n k z t kn pl lf pn) H) (hD : va_D A (wC G a fm fh fw fb fc fd fr fp n k z t kn pl lf pn ++ wMd G b gc gd gw gf gp ga gb gh gg gx ge n k z t kn pl lf pn)) (hS : va_S A s.heap H locs)
    (kk : ∀ (fm fh fw fb fc fd fr fp : Nat → Int32) (gc gd gw gf gp ga gb gh gg gx ge : Nat → Int32) (n k z t : Nat) (kn : Int32) (pl lf pn : Nat) (H : Heap) (locs : List Loc), Rel fb fc fd fr fp n k z t kn pl lf pn gc gd gw gf gp → (∀ j, j < 64 → ga j = st_K j) → (∀ j, j < 8 → gb j = st_S j) → va_P G.1 vwCl (wC G a fm fh fw fb fc fd fr fp n k z t kn pl lf pn ++ wMd G b gc gd gw gf gp ga gb gh gg gx ge n k z t kn pl lf pn) H → va_D A (wC G a fm fh fw fb fc fd fr fp n k z t kn pl lf pn ++ wMd G b gc gd gw gf gp ga gb gh gg gx ge n k z t kn pl lf pn) → va_S A s.heap H locs → W p l e room_1 s m args below meth c H locs 23 8649 Q (F0 m 677 ls [])) : W p l e room_1 s m args below meth c H locs 23 8649 Q (F0 m 598 ls []) := by
  obtain ⟨hB1, hB2, hB3, hB4, hB5, hB6, hB7⟩ := hrel.1
  refine lv_aload_n hx hb dL_law_598 rfl (lv_at hl 1 rfl) ?_
  refine lv_aload_n hx hb dL_law_599 rfl (lv_at hl 0 rfl) ?_
  refine lv_iload_n hx hb dL_law_600 rfl (lv_at hl 3 rfl) ?_
  refine lv_iconst (v := nI 1) hx hb dL_law_601 (by decide) ?_
  refine ad_N hx hb i 1 dL_law_602 ?_
  refine sl_N hx hb hX9 hbl hbA hS (i + 1) (by omega) hL dL_law_603 ?_
  refine call_Vi (wr := wMd G b gc gd gw gf gp ga gb gh gg gx ge n k z t kn pl lf pn) [.int (xs (i + 1))] [] ⟨hx, hb, hml, hown, hts⟩ hK hX hA hP hD hS (c_proof l G _ a fm fh fw fb fc fd fr fp n k z t kn pl lf pn (xs (i + 1)) (by omega) (by omega) (by omega) (by omega) (by omega) (by omega) (by omega)) (cwV 1 hts gL_law_X2_proof rfl rfl rfl (by decide +kernel) ⟨Nat.le_of_ble_eq_true rfl, Nat.le_of_ble_eq_true rfl⟩) 2 0 rfl rfl rfl [0, 1, 2, 3, 4, 5, 6, 7, 8, 9, 10] [11, 12, 13, 14, 15, 16, 17, 18, 19, 20, 21, 22] rfl rfl (by decide) (by decide) (by decide) rfl hl.1 (Nat.le_of_ble_eq_true rfl) dL_law_604 ⟨Nat.le_of_ble_eq_true rfl, Nat.le_of_ble_eq_true rfl⟩ (fun r1 u H locs hw1 hP hD hS => ?_)
  have hP : va_P G.1 vwCl (wC G a fm fh fw fb fc fd fr fp n k z t kn pl lf pn ++ wMd G b gc gd gw gf gp ga gb gh gg gx ge n k z t kn pl lf pn) H := hP.sub [12, 13, 14, 15, 16, 17, 18, 19, 20, 21, 22, 0, 1, 2, 3, 4, 5, 6, 7, 8, 9, 10, 11] rfl
  have hD : va_D A (wC G a fm fh fw fb fc fd fr fp n k z t kn pl lf pn ++ wMd G b gc gd gw gf gp ga gb gh gg gx ge n k z t kn pl lf pn) := hD.sub [12, 13, 14, 15, 16, 17, 18, 19, 20, 21, 22, 0, 1, 2, 3, 4, 5, 6, 7, 8, 9, 10, 11] (by decide) rfl
  refine lv_aload_n hx hb dL_law_607 rfl (lv_at hl 2 rfl) ?_
  refine lv_aload_n hx hb dL_law_608 rfl (lv_at hl 0 rfl) ?_
  refine lv_iload_n hx hb dL_law_609 rfl (lv_at hl 3 rfl) ?_
  refine lv_iconst (v := nI 1) hx hb dL_law_610 (by decide) ?_
  refine ad_N hx hb i 1 dL_law_611 ?_
  refine sl_N hx hb hX9 hbl hbA hS (i + 1) (by omega) hL dL_law_612 ?_
  refine call_Vi (wr := wC G a fm fh fw fb fc fd fr fp n k z t kn pl lf pn) [.int (xs (i + 1))] [.int r1] ⟨hx, hb, hml, hown, hts⟩ hK hX hA hP hD hS (m_proof l G _ b gc gd gw gf gp ga gb gh gg gx ge n k z t kn pl lf pn (xs (i + 1)) (by omega) (by omega) (by omega) (by omega) (by omega) (by omega) (by omega) hga hgb) (cwV 1 hts gL_law_X3_proof rfl rfl rfl (by decide +kernel) ⟨Nat.le_of_ble_eq_true rfl, Nat.le_of_ble_eq_true rfl⟩) 3 11 rfl rfl rfl [11, 12, 13, 14, 15, 16, 17, 18, 19, 20, 21, 22] [0, 1, 2, 3, 4, 5, 6, 7, 8, 9, 10] rfl rfl (by decide) (by decide) (by decide) rfl hl.1 (Nat.le_of_ble_eq_true rfl) dL_law_613 ⟨Nat.le_of_ble_eq_true rfl, Nat.le_of_ble_eq_true rfl⟩ (fun r2 u H locs hw2 hP hD hS => ?_)
  have hP : va_P G.1 vwCl (wC G a fm fh fw fb fc fd fr fp n k z t kn pl lf pn ++ wMd G b gc gd gw gf gp ga gb gh gg gx ge n k z t kn pl lf pn) H := hP
  have hD : va_D A (wC G a fm fh fw fb fc fd fr fp n k z t kn pl lf pn ++ wMd G b gc gd gw gf gp ga gb gh gg gx ge n k z t kn pl lf pn) := hD
  have er := hw1.trans ((rel_proof hrel _).trans hw2.symm)
  refine lv_icmp_eq (tgt := 677) hx hb dL_law_616 (by decide) (fun _ => ?_) (fun c9 => absurd er c9)
  exact kk _ _ _ _ _ _ _ _ _ _ _ _ _ _ _ _ _ _ _ _ _ _ _ _ _ _ _ _ _ hrel hga hgb hP hD hS
set_option maxHeartbeats 4000000 in
set_option maxRecDepth 100000 in
theorem law_forge {p : Program} {l : Launch} {e : Env} {s : State} {m : MethodId} {args : Array Value} {below : List Frame} {meth : Method} {c : Code} {A : Nat → Prop} {Q : State → Prop} {G : gG} {q9 L : Nat} {xs : Nat → Int32} {ls : Array Slot} {a b : Nat → Nat} (hx : p.tables.exec = Jvm.exec) (hb : c.code = cL_law) (hml : c.maxLocals = 4) (hown : s.vm.findClass RL = some m.cls) (hts : ∀ w ∈ wsL_law, w.before args s = true) (hA : ∀ q : Nat, s.heap.size ≤ q → A q) (hK : va_K G.1 vwCl (gT G) s) (hX : st_X G A s s.heap) (hX9 : va_X q9 L xs s s.heap) (hbl : q9 < s.heap.size) (hbA : ¬ A q9) (hL : L ≤ 2049) {i : Nat} (hi : 1 ≤ i) (hiL : i + 4 ≤ L) (hl : lv_has ls 4 [(0, .ref q9), (1, .ref (a 0)), (2, .ref (b 0)), (3, .int (nI i))]) {fm fh fw fb fc fd fr fp : Nat → Int32} {gc gd gw gf gp ga gb gh gg gx ge : Nat → Int32} {n k z t : Nat} {kn : Int32} {pl lf pn : Nat} {H : Heap} {locs : List Loc} (hrel : Rel fb fc fd fr fp n k z t kn pl lf pn gc gd gw gf gp) (hga : ∀ j, j < 64 → ga j = st_K j) (hgb : ∀ j, j < 8 → gb j = st_S j) (hP : va_P G.1 vwCl (wC G a fm fh fw fb fc fd fr fp n k z t kn pl lf pn ++ wMd G b gc gd gw gf gp ga gb gh gg gx ge n k z t kn pl lf pn) H) (hD : va_D A (wC G a fm fh fw fb fc fd fr fp n k z t kn pl lf pn ++ wMd G b gc gd gw gf gp ga gb gh gg gx ge n k z t kn pl lf pn)) (hS : va_S A s.heap H locs)
    (kk : ∀ (fm fh fw fb fc fd fr fp : Nat → Int32) (gc gd gw gf gp ga gb gh gg gx ge : Nat → Int32) (n k z t : Nat) (kn : Int32) (pl lf pn : Nat) (H : Heap) (locs : List Loc), Rel fb fc fd fr fp n k z t kn pl lf pn gc gd gw gf gp → (∀ j, j < 64 → ga j = st_K j) → (∀ j, j < 8 → gb j = st_S j) → va_P G.1 vwCl (wC G a fm fh fw fb fc fd fr fp n k z t kn pl lf pn ++ wMd G b gc gd gw gf gp ga gb gh gg gx ge n k z t kn pl lf pn) H → va_D A (wC G a fm fh fw fb fc fd fr fp n k z t kn pl lf pn ++ wMd G b gc gd gw gf gp ga gb gh gg gx ge n k z t kn pl lf pn) → va_S A s.heap H locs → W p l e room_1 s m args below meth c H locs 23 8649 Q (F0 m 677 ls [])) : W p l e room_1 s m args below meth c H locs 23 8649 Q (F0 m 621 ls []) := by
  obtain ⟨hB1, hB2, hB3, hB4, hB5, hB6, hB7⟩ := hrel.1
  refine lv_aload_n hx hb dL_law_621 rfl (lv_at hl 1 rfl) ?_
  refine lv_aload_n hx hb dL_law_622 rfl (lv_at hl 0 rfl) ?_
  refine lv_iload_n hx hb dL_law_623 rfl (lv_at hl 3 rfl) ?_
  refine lv_iconst (v := nI 1) hx hb dL_law_624 (by decide) ?_
  refine ad_N hx hb i 1 dL_law_625 ?_
  refine sl_N hx hb hX9 hbl hbA hS (i + 1) (by omega) hL dL_law_626 ?_
  refine lv_aload_n hx hb dL_law_627 rfl (lv_at hl 0 rfl) ?_
  refine lv_iload_n hx hb dL_law_628 rfl (lv_at hl 3 rfl) ?_
  refine lv_iconst (v := nI 2) hx hb dL_law_629 (by decide) ?_
  refine ad_N hx hb i 2 dL_law_630 ?_
  refine sl_N hx hb hX9 hbl hbA hS (i + 2) (by omega) hL dL_law_631 ?_
  refine call_Vi (wr := wMd G b gc gd gw gf gp ga gb gh gg gx ge n k z t kn pl lf pn) [.int (xs (i + 1)), .int (xs (i + 2))] [] ⟨hx, hb, hml, hown, hts⟩ hK hX hA hP hD hS (c_forge l G _ a fm fh fw fb fc fd fr fp n k z t kn pl lf pn (xs (i + 1)) (xs (i + 2)) (by omega) (by omega) (by omega) (by omega) (by omega) (by omega) (by omega)) (cwV 2 hts gL_law_X2_forge rfl rfl rfl (by decide +kernel) ⟨Nat.le_of_ble_eq_true rfl, Nat.le_of_ble_eq_true rfl⟩) 2 0 rfl rfl rfl [0, 1, 2, 3, 4, 5, 6, 7, 8, 9, 10] [11, 12, 13, 14, 15, 16, 17, 18, 19, 20, 21, 22] rfl rfl (by decide) (by decide) (by decide) rfl hl.1 (Nat.le_of_ble_eq_true rfl) dL_law_632 ⟨Nat.le_of_ble_eq_true rfl, Nat.le_of_ble_eq_true rfl⟩ (fun r1 u H locs hw1 hP hD hS => ?_)
  obtain ⟨fp1, rfl⟩ : ∃ z, z = u := ⟨_, rfl⟩
  try dsimp only at hw1
  have hP : va_P G.1 vwCl (wC G a fm fh fw fb fc fd fr fp1 n k z t kn pl lf pn ++ wMd G b gc gd gw gf gp ga gb gh gg gx ge n k z t kn pl lf pn) H := hP.sub [12, 13, 14, 15, 16, 17, 18, 19, 20, 21, 22, 0, 1, 2, 3, 4, 5, 6, 7, 8, 9, 10, 11] rfl
  have hD : va_D A (wC G a fm fh fw fb fc fd fr fp1 n k z t kn pl lf pn ++ wMd G b gc gd gw gf gp ga gb gh gg gx ge n k z t kn pl lf pn) := hD.sub [12, 13, 14, 15, 16, 17, 18, 19, 20, 21, 22, 0, 1, 2, 3, 4, 5, 6, 7, 8, 9, 10, 11] (by decide) rfl
  refine lv_aload_n hx hb dL_law_635 rfl (lv_at hl 2 rfl) ?_
  refine lv_aload_n hx hb dL_law_636 rfl (lv_at hl 0 rfl) ?_
  refine lv_iload_n hx hb dL_law_637 rfl (lv_at hl 3 rfl) ?_
  refine lv_iconst (v := nI 1) hx hb dL_law_638 (by decide) ?_
  refine ad_N hx hb i 1 dL_law_639 ?_
  refine sl_N hx hb hX9 hbl hbA hS (i + 1) (by omega) hL dL_law_640 ?_
  refine lv_aload_n hx hb dL_law_641 rfl (lv_at hl 0 rfl) ?_
  refine lv_iload_n hx hb dL_law_642 rfl (lv_at hl 3 rfl) ?_
  refine lv_iconst (v := nI 2) hx hb dL_law_643 (by decide) ?_
  refine ad_N hx hb i 2 dL_law_644 ?_
  refine sl_N hx hb hX9 hbl hbA hS (i + 2) (by omega) hL dL_law_645 ?_
  refine call_Vi (wr := wC G a fm fh fw fb fc fd fr fp1 n k z t kn pl lf pn) [.int (xs (i + 1)), .int (xs (i + 2))] [.int r1] ⟨hx, hb, hml, hown, hts⟩ hK hX hA hP hD hS (m_forge l G _ b gc gd gw gf gp ga gb gh gg gx ge n k z t kn pl lf pn (xs (i + 1)) (xs (i + 2)) (by omega) (by omega) (by omega) (by omega) (by omega) (by omega) (by omega) hga hgb) (cwV 2 hts gL_law_X3_forge rfl rfl rfl (by decide +kernel) ⟨Nat.le_of_ble_eq_true rfl, Nat.le_of_ble_eq_true rfl⟩) 3 11 rfl rfl rfl [11, 12, 13, 14, 15, 16, 17, 18, 19, 20, 21, 22] [0, 1, 2, 3, 4, 5, 6, 7, 8, 9, 10] rfl rfl (by decide) (by decide) (by decide) rfl hl.1 (Nat.le_of_ble_eq_true rfl) dL_law_646 ⟨Nat.le_of_ble_eq_true rfl, Nat.le_of_ble_eq_true rfl⟩ (fun r2 u H locs hw2 hP hD hS => ?_)
  obtain ⟨gp2, rfl⟩ : ∃ z, z = u := ⟨_, rfl⟩
  try dsimp only at hw2
  have hP : va_P G.1 vwCl (wC G a fm fh fw fb fc fd fr fp1 n k z t kn pl lf pn ++ wMd G b gc gd gw gf gp2 ga gb gh gg gx ge n k z t kn pl lf pn) H := hP
  have hD : va_D A (wC G a fm fh fw fb fc fd fr fp1 n k z t kn pl lf pn ++ wMd G b gc gd gw gf gp2 ga gb gh gg gx ge n k z t kn pl lf pn) := hD
  obtain ⟨er, hrel⟩ := rel_forge hrel hw1 hw2
  refine lv_icmp_eq (tgt := 677) hx hb dL_law_649 (by decide) (fun _ => ?_) (fun c9 => absurd er c9)
  exact kk _ _ _ _ _ _ _ _ _ _ _ _ _ _ _ _ _ _ _ _ _ _ _ _ _ _ _ _ _ hrel hga hgb hP hD hS
set_option maxHeartbeats 4000000 in
set_option maxRecDepth 100000 in
theorem law_check {p : Program} {l : Launch} {e : Env} {s : State} {m : MethodId} {args : Array Value} {below : List Frame} {meth : Method} {c : Code} {A : Nat → Prop} {Q : State → Prop} {G : gG} {q9 L : Nat} {xs : Nat → Int32} {ls : Array Slot} {a b : Nat → Nat} (hx : p.tables.exec = Jvm.exec) (hb : c.code = cL_law) (hml : c.maxLocals = 4) (hown : s.vm.findClass RL = some m.cls) (hts : ∀ w ∈ wsL_law, w.before args s = true) (hA : ∀ q : Nat, s.heap.size ≤ q → A q) (hK : va_K G.1 vwCl (gT G) s) (hX : st_X G A s s.heap) (hX9 : va_X q9 L xs s s.heap) (hbl : q9 < s.heap.size) (hbA : ¬ A q9) (hL : L ≤ 2049) {i : Nat} (hi : 1 ≤ i) (hiL : i + 4 ≤ L) (hl : lv_has ls 4 [(0, .ref q9), (1, .ref (a 0)), (2, .ref (b 0)), (3, .int (nI i))]) {fm fh fw fb fc fd fr fp : Nat → Int32} {gc gd gw gf gp ga gb gh gg gx ge : Nat → Int32} {n k z t : Nat} {kn : Int32} {pl lf pn : Nat} {H : Heap} {locs : List Loc} (hrel : Rel fb fc fd fr fp n k z t kn pl lf pn gc gd gw gf gp) (hga : ∀ j, j < 64 → ga j = st_K j) (hgb : ∀ j, j < 8 → gb j = st_S j) (hP : va_P G.1 vwCl (wC G a fm fh fw fb fc fd fr fp n k z t kn pl lf pn ++ wMd G b gc gd gw gf gp ga gb gh gg gx ge n k z t kn pl lf pn) H) (hD : va_D A (wC G a fm fh fw fb fc fd fr fp n k z t kn pl lf pn ++ wMd G b gc gd gw gf gp ga gb gh gg gx ge n k z t kn pl lf pn)) (hS : va_S A s.heap H locs)
    (kk : ∀ (fm fh fw fb fc fd fr fp : Nat → Int32) (gc gd gw gf gp ga gb gh gg gx ge : Nat → Int32) (n k z t : Nat) (kn : Int32) (pl lf pn : Nat) (H : Heap) (locs : List Loc), Rel fb fc fd fr fp n k z t kn pl lf pn gc gd gw gf gp → (∀ j, j < 64 → ga j = st_K j) → (∀ j, j < 8 → gb j = st_S j) → va_P G.1 vwCl (wC G a fm fh fw fb fc fd fr fp n k z t kn pl lf pn ++ wMd G b gc gd gw gf gp ga gb gh gg gx ge n k z t kn pl lf pn) H → va_D A (wC G a fm fh fw fb fc fd fr fp n k z t kn pl lf pn ++ wMd G b gc gd gw gf gp ga gb gh gg gx ge n k z t kn pl lf pn) → va_S A s.heap H locs → W p l e room_1 s m args below meth c H locs 23 8649 Q (F0 m 677 ls [])) : W p l e room_1 s m args below meth c H locs 23 8649 Q (F0 m 654 ls []) := by
  obtain ⟨hB1, hB2, hB3, hB4, hB5, hB6, hB7⟩ := hrel.1
  refine lv_aload_n hx hb dL_law_654 rfl (lv_at hl 1 rfl) ?_
  refine lv_aload_n hx hb dL_law_655 rfl (lv_at hl 0 rfl) ?_
  refine lv_iload_n hx hb dL_law_656 rfl (lv_at hl 3 rfl) ?_
  refine lv_iconst (v := nI 1) hx hb dL_law_657 (by decide) ?_
  refine ad_N hx hb i 1 dL_law_658 ?_
  refine sl_N hx hb hX9 hbl hbA hS (i + 1) (by omega) hL dL_law_659 ?_
  refine call_Vi (wr := wMd G b gc gd gw gf gp ga gb gh gg gx ge n k z t kn pl lf pn) [.int (xs (i + 1))] [] ⟨hx, hb, hml, hown, hts⟩ hK hX hA hP hD hS (c_check l G _ a fm fh fw fb fc fd fr fp n k z t kn pl lf pn (xs (i + 1)) (by omega) (by omega) (by omega) (by omega) (by omega) (by omega) (by omega)) (cwV 1 hts gL_law_X2_check rfl rfl rfl (by decide +kernel) ⟨Nat.le_of_ble_eq_true rfl, Nat.le_of_ble_eq_true rfl⟩) 2 0 rfl rfl rfl [0, 1, 2, 3, 4, 5, 6, 7, 8, 9, 10] [11, 12, 13, 14, 15, 16, 17, 18, 19, 20, 21, 22] rfl rfl (by decide) (by decide) (by decide) rfl hl.1 (Nat.le_of_ble_eq_true rfl) dL_law_660 ⟨Nat.le_of_ble_eq_true rfl, Nat.le_of_ble_eq_true rfl⟩ (fun r1 u H locs hw1 hP hD hS => ?_)
  obtain ⟨fm1, fh1, fw1⟩ := u
  try dsimp only at hw1
  have hP : va_P G.1 vwCl (wC G a fm1 fh1 fw1 fb fc fd fr fp n k z t kn pl lf pn ++ wMd G b gc gd gw gf gp ga gb gh gg gx ge n k z t kn pl lf pn) H := hP.sub [12, 13, 14, 15, 16, 17, 18, 19, 20, 21, 22, 0, 1, 2, 3, 4, 5, 6, 7, 8, 9, 10, 11] rfl
  have hD : va_D A (wC G a fm1 fh1 fw1 fb fc fd fr fp n k z t kn pl lf pn ++ wMd G b gc gd gw gf gp ga gb gh gg gx ge n k z t kn pl lf pn) := hD.sub [12, 13, 14, 15, 16, 17, 18, 19, 20, 21, 22, 0, 1, 2, 3, 4, 5, 6, 7, 8, 9, 10, 11] (by decide) rfl
  refine lv_aload_n hx hb dL_law_663 rfl (lv_at hl 2 rfl) ?_
  refine lv_aload_n hx hb dL_law_664 rfl (lv_at hl 0 rfl) ?_
  refine lv_iload_n hx hb dL_law_665 rfl (lv_at hl 3 rfl) ?_
  refine lv_iconst (v := nI 1) hx hb dL_law_666 (by decide) ?_
  refine ad_N hx hb i 1 dL_law_667 ?_
  refine sl_N hx hb hX9 hbl hbA hS (i + 1) (by omega) hL dL_law_668 ?_
  refine call_Vi (wr := wC G a fm1 fh1 fw1 fb fc fd fr fp n k z t kn pl lf pn) [.int (xs (i + 1))] [.int r1] ⟨hx, hb, hml, hown, hts⟩ hK hX hA hP hD hS (m_check l G _ b gc gd gw gf gp ga gb gh gg gx ge n k z t kn pl lf pn (xs (i + 1)) (by omega) (by omega) (by omega) (by omega) (by omega) (by omega) (by omega) hga hgb) (cwV 1 hts gL_law_X3_check rfl rfl rfl (by decide +kernel) ⟨Nat.le_of_ble_eq_true rfl, Nat.le_of_ble_eq_true rfl⟩) 3 11 rfl rfl rfl [11, 12, 13, 14, 15, 16, 17, 18, 19, 20, 21, 22] [0, 1, 2, 3, 4, 5, 6, 7, 8, 9, 10] rfl rfl (by decide) (by decide) (by decide) rfl hl.1 (Nat.le_of_ble_eq_true rfl) dL_law_669 ⟨Nat.le_of_ble_eq_true rfl, Nat.le_of_ble_eq_true rfl⟩ (fun r2 u H locs hw2 hP hD hS => ?_)
  obtain ⟨gh2, gg2, gx2, ge2⟩ := u
  try dsimp only at hw2
  have hP : va_P G.1 vwCl (wC G a fm1 fh1 fw1 fb fc fd fr fp n k z t kn pl lf pn ++ wMd G b gc gd gw gf gp ga gb gh2 gg2 gx2 ge2 n k z t kn pl lf pn) H := hP
  have hD : va_D A (wC G a fm1 fh1 fw1 fb fc fd fr fp n k z t kn pl lf pn ++ wMd G b gc gd gw gf gp ga gb gh2 gg2 gx2 ge2 n k z t kn pl lf pn) := hD
  have er := rel_check hrel hw1 hw2
  refine lv_icmp_eq (tgt := 677) hx hb dL_law_672 (by decide) (fun _ => ?_) (fun c9 => absurd er c9)
  exact kk _ _ _ _ _ _ _ _ _ _ _ _ _ _ _ _ _ _ _ _ _ _ _ _ _ _ _ _ _ hrel hga hgb hP hD hS
