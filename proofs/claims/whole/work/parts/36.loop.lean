set_option maxHeartbeats 4000000 in
set_option maxRecDepth 100000 in
theorem c_Lcell (l : Launch) (q9 L : Nat) (xs : Nat → Int32) (sz : Nat) (hL : L ≤ 2049) : Met l yL_cell wsL_cell ({ frames := 0, cells := 0, slots := 0, locals := 0 } : Room) (va_Pc [.ref q9, .int (nI 0)] (fun U => U.heap.size = sz ∧ va_X q9 L xs U U.heap ∧ q9 < sz)) (va_Qi (fun r (_ : Unit) => r = if 0 < L then xs 0 else nI 0) (fun _ _ => True) (fun q => sz ≤ q)) 0 0 (fun q => sz ≤ q) := by
  refine Met.ofW (cc := cL_cell) (maxL := 2) (ret := some .int) (by decide) rfl ?_
  intro p e s m args below meth c s₁ B hml hv
  obtain ⟨rfl, hsz, hX9, hbl⟩ := hv
  have hx := B.exec
  have hb := B.bytes
  have hr := B.returns
  have hlocks := B.notSynchronized
  subst hsz
  have hl := lv_entry ([.ref q9, .int (nI 0)]) (n := 2) (Nat.le_of_ble_eq_true rfl)
  rw [lg_entry_eq]
  generalize (lg_sl ([.ref q9, .int (nI 0)]) ++ List.replicate (2 - (lg_sl ([.ref q9, .int (nI 0)])).length) Slot.unset).toArray = ls at hl ⊢
  have hl : lv_has ls 2 [(0, .ref q9), (1, .int (nI 0))] := hl
  have hS : va_S (fun q : Nat => s.heap.size ≤ q) s.heap s.heap [] := va_S.rf
  have hbA : ¬ (fun q : Nat => s.heap.size ≤ q) q9 := Nat.not_le.mpr hbl
  refine lv_iload_n hx hb dL_cell_0 rfl (lv_at hl 1 rfl) ?_
  refine lv_aload_n hx hb dL_cell_1 rfl (lv_at hl 0 rfl) ?_
  refine va_slen hx hb hX9 hbl hbA hS dL_cell_2 ?_
  refine cmp_ge hx hb 0 L 12 (by omega) (by omega) dL_cell_3 (by decide) (fun c3 => ?_) (fun c3 => ?_)
  · refine lv_iconst (v := nI 0) hx hb dL_cell_12 (by decide) ?_
    exact W.iret (v := nI 0) hx hb hr (fun t ht hW => ⟨⟨nI 0, (), rfl, by rw [if_neg (by omega)], trivial⟩, hS.F ht⟩) hS.2.2 dL_cell_13
  · refine lv_aload_n hx hb dL_cell_6 rfl (lv_at hl 0 rfl) ?_
    refine lv_iload_n hx hb dL_cell_7 rfl (lv_at hl 1 rfl) ?_
    refine sl_N hx hb hX9 hbl hbA hS 0 c3 hL dL_cell_8 ?_
    refine lv_goto (tgt := 13) hx hb dL_cell_9 (by decide) ?_
    exact W.iret (v := xs 0) hx hb hr (fun t ht hW => ⟨⟨xs 0, (), rfl, by rw [if_pos c3], trivial⟩, hS.F ht⟩) hS.2.2 dL_cell_13
theorem call_cell {p : Program} {l : Launch} {e : Env} {s : State} {m : MethodId} {args : Array Value} {below : List Frame} {meth : Method} {c : Code} {H : Heap} {locs : List Loc} {cells slots : Nat} {Q : State → Prop} {pc : Nat} {ls : Array Slot} {G : gG} {A : Nat → Prop} {w : va_W} (rest : List Value) (sx : CallFix p m c cL_law 4 s args wsL_law RL) (hA : ∀ q : Nat, s.heap.size ≤ q → A q) (hP : va_P G.1 vwCl w H) (hD : va_D A w) (hS : va_S A s.heap H locs) {q9 L : Nat} {xs : Nat → Int32} (hX9 : va_X q9 L xs s s.heap) (hbl : q9 < s.heap.size) (hbA : ¬ A q9) (hL : L ≤ 2049)
    (hsize : ls.size = 4) (hW : (rest.map fun v => v.category).sum ≤ 8) (hdg : decode cL_law pc = .ok (.invokestatic 9, 3)) (hf : cells ≤ room_1.cells ∧ slots ≤ room_1.slots)
    (kk : ∀ (H1 : Heap) (locs1 : List Loc), va_P G.1 vwCl w H1 → va_D A w → va_S A s.heap H1 locs1 → W p l e room_1 s m args below meth c H1 locs1 cells slots Q (F0 m (pc + 3) ls (.int (if 0 < L then xs 0 else nI 0) :: rest))) : W p l e room_1 s m args below meth c H locs cells slots Q (F0 m pc ls (.int (nI 0) :: .ref q9 :: rest)) := by
  have hqH : q9 < H.size := Nat.lt_of_lt_of_le hbl hS.1
  refine va_calli (va_runS (As := [.ref q9, .int (nI 0)]) (rest := rest) sx (c_Lcell l q9 L xs H.size hL) (va_cwS 2 sx.2.2.2.2 gL_law_L_cell rfl rfl rfl (by decide +kernel) ⟨Nat.le_of_ble_eq_true rfl, Nat.le_of_ble_eq_true rfl⟩) ⟨fun a U g mk q => ⟨q.1, q.2.1, q.2.2.1.moved (u := U) (U := U.calling g mk a) (Vm.Alike.refl U.vm), q.2.2.2⟩, fun U hU hWm => ⟨rfl, by rw [hU], by rw [hU]; exact (hX9.kept (hS.2.1 q9 hbl hbA)).moved hWm.alike, hqH⟩⟩ rfl rfl hsize rfl (lv_room hW) hdg hf) hS (fun q h1 h2 => absurd h2 (Nat.not_le.mpr h1)) (fun q h => hA q (Nat.le_trans hS.1 h)) (fun r u t H1 locs1 ht hvm hw hB hz1 hk1 hS1 => ?_)
  subst hw
  exact kk H1 locs1 (hP.kept (fun k q hq => hk1 q.1 ((hP k q hq).lt) (Nat.not_le.mpr ((hP k q hq).lt)))) hD hS1
set_option maxHeartbeats 4000000 in
set_option maxRecDepth 100000 in
theorem law_loop {p : Program} {l : Launch} {e : Env} {s : State} {m : MethodId} {args : Array Value} {below : List Frame} {meth : Method} {c : Code} {A : Nat → Prop} {Q : State → Prop} {G : gG} {q9 L : Nat} {xs : Nat → Int32} {a b : Nat → Nat} (hx : p.tables.exec = Jvm.exec) (hb : c.code = cL_law) (hml : c.maxLocals = 4) (hown : s.vm.findClass RL = some m.cls) (hts : ∀ w ∈ wsL_law, w.before args s = true) (hA : ∀ q : Nat, s.heap.size ≤ q → A q) (hK : va_K G.1 vwCl (gT G) s) (hX : st_X G A s s.heap) (hX9 : va_X q9 L xs s s.heap) (hbl : q9 < s.heap.size) (hbA : ¬ A q9) (hL : L ≤ 2049) (hend : ∀ (H : Heap) (locs : List Loc) (ls : Array Slot), va_S A s.heap H locs → W p l e room_1 s m args below meth c H locs 23 8649 Q (F0 m 684 ls [.int 1])) :
    ∀ (fu i : Nat), 1 ≤ i → i ≤ L + 4 → L + 5 - i < fu → ∀ (fm fh fw fb fc fd fr fp : Nat → Int32) (gc gd gw gf gp ga gb gh gg gx ge : Nat → Int32) (n k z t : Nat) (kn : Int32) (pl lf pn : Nat) (H : Heap) (locs : List Loc) (ls : Array Slot), Rel fb fc fd fr fp n k z t kn pl lf pn gc gd gw gf gp → (∀ j, j < 64 → ga j = st_K j) → (∀ j, j < 8 → gb j = st_S j) → va_P G.1 vwCl (wC G a fm fh fw fb fc fd fr fp n k z t kn pl lf pn ++ wMd G b gc gd gw gf gp ga gb gh gg gx ge n k z t kn pl lf pn) H → va_D A (wC G a fm fh fw fb fc fd fr fp n k z t kn pl lf pn ++ wMd G b gc gd gw gf gp ga gb gh gg gx ge n k z t kn pl lf pn) → va_S A s.heap H locs → lv_has ls 4 [(0, .ref q9), (1, .ref (a 0)), (2, .ref (b 0)), (3, .int (nI i))] → W p l e room_1 s m args below meth c H locs 23 8649 Q (F0 m 28 ls []) := by
  intro fu
  induction fu with
  | zero => intro i h1 h2 h3; exact absurd h3 (Nat.not_lt_zero _)
  | succ fu ih =>
    intro i hi hi4 hfu fm fh fw fb fc fd fr fp gc gd gw gf gp ga gb gh gg gx ge n k z t kn pl lf pn H locs ls hrel hga hgb hP hD hS hl
    refine lv_iload_n hx hb dL_law_28 rfl (lv_at hl 3 rfl) ?_
    refine lv_aload_n hx hb dL_law_29 rfl (lv_at hl 0 rfl) ?_
    refine va_slen hx hb hX9 hbl hbA hS dL_law_30 ?_
    refine lv_iconst (v := nI 4) hx hb dL_law_31 (by decide) ?_
    refine lv_isub hx hb dL_law_32 ?_
    have eL : (nI L - nI 4).toInt = (L : Int) - 4 := pk_sub_toInt (by omega) (by omega)
    refine cmz_gtnz hx hb i (nI L - nI 4) 683 (by omega) dL_law_33 (by decide) (fun c33 => ?_) (fun c33 => ?_)
    · refine lv_iconst (v := 1) hx hb dL_law_683 (by decide) ?_
      exact hend _ _ _ hS
    · rw [eL] at c33
      have hiL : i + 4 ≤ L := by omega
      refine lv_aload_n hx hb dL_law_36 rfl (lv_at hl 0 rfl) ?_
      refine lv_iload_n hx hb dL_law_37 rfl (lv_at hl 3 rfl) ?_
      refine sl_N hx hb hX9 hbl hbA hS i (by omega) hL dL_law_38 ?_
      refine lv_bipush (v := nI 31) hx hb dL_law_39 (by decide) ?_
      refine lv_iand hx hb dL_law_41 ?_
      obtain ⟨v, hv, ev⟩ := pk_andE (xs i) (m := nI 31) 5 (by decide)
      refine top_i (nI v) ev ?_
      have kk : ∀ (fm fh fw fb fc fd fr fp : Nat → Int32) (gc gd gw gf gp ga gb gh gg gx ge : Nat → Int32) (n k z t : Nat) (kn : Int32) (pl lf pn : Nat) (H : Heap) (locs : List Loc), Rel fb fc fd fr fp n k z t kn pl lf pn gc gd gw gf gp → (∀ j, j < 64 → ga j = st_K j) → (∀ j, j < 8 → gb j = st_S j) → va_P G.1 vwCl (wC G a fm fh fw fb fc fd fr fp n k z t kn pl lf pn ++ wMd G b gc gd gw gf gp ga gb gh gg gx ge n k z t kn pl lf pn) H → va_D A (wC G a fm fh fw fb fc fd fr fp n k z t kn pl lf pn ++ wMd G b gc gd gw gf gp ga gb gh gg gx ge n k z t kn pl lf pn) → va_S A s.heap H locs → W p l e room_1 s m args below meth c H locs 23 8649 Q (F0 m 677 ls []) := by
        intro fm fh fw fb fc fd fr fp gc gd gw gf gp ga gb gh gg gx ge n k z t kn pl lf pn H locs hrel hga hgb hP hD hS
        refine lv_iinc (v := nI (i + 4)) (lv' := [(3, .int (nI (i + 4))), (0, .ref q9), (1, .ref (a 0)), (2, .ref (b 0))]) hx hb dL_law_677 hl (k := 3) rfl (inc_N i 4) (by decide) rfl (fun ls hl => ?_)
        refine lv_goto (tgt := 28) hx hb dL_law_680 (by decide) ?_
        exact ih (i + 4) (by omega) (by omega) (by omega) _ _ _ _ _ _ _ _ _ _ _ _ _ _ _ _ _ _ _ _ _ _ _ _ _ _ _ _ _ _ hrel hga hgb hP hD hS (lv_sub hl [1, 2, 3, 0] rfl)
      rcases (show v = 0 ∨ v = 1 ∨ v = 2 ∨ v = 3 ∨ v = 4 ∨ v = 5 ∨ v = 6 ∨ v = 7 ∨ v = 8 ∨ v = 9 ∨ v = 10 ∨ v = 11 ∨ v = 12 ∨ v = 13 ∨ v = 14 ∨ v = 15 ∨ v = 16 ∨ v = 17 ∨ v = 18 ∨ v = 19 ∨ v = 20 ∨ v = 21 ∨ v = 22 ∨ 23 ≤ v by omega) with rfl | rfl | rfl | rfl | rfl | rfl | rfl | rfl | rfl | rfl | rfl | rfl | rfl | rfl | rfl | rfl | rfl | rfl | rfl | rfl | rfl | rfl | rfl | hv2
      · refine lv_tableIn (off := 106) (tgt := 148) hx hb dL_law_42 (by decide) (by decide) rfl (by decide) ?_
        exact law_put hx hb hml hown hts hA hK hX hX9 hbl hbA hL hi hiL hl hrel hga hgb hP hD hS kk
      · refine lv_tableIn (off := 129) (tgt := 171) hx hb dL_law_42 (by decide) (by decide) rfl (by decide) ?_
        exact law_takeBack hx hb hml hown hts hA hK hX hX9 hbl hbA hL hi hiL hl hrel hga hgb hP hD hS kk
      · refine lv_tableIn (off := 152) (tgt := 194) hx hb dL_law_42 (by decide) (by decide) rfl (by decide) ?_
        exact law_pending hx hb hml hown hts hA hK hX hX9 hbl hbA hL hi hiL hl hrel hga hgb hP hD hS kk
      · refine lv_tableIn (off := 175) (tgt := 217) hx hb dL_law_42 (by decide) (by decide) rfl (by decide) ?_
        exact law_difficulty hx hb hml hown hts hA hK hX hX9 hbl hbA hL hi hiL hl hrel hga hgb hP hD hS kk
      · refine lv_tableIn (off := 198) (tgt := 240) hx hb dL_law_42 (by decide) (by decide) rfl (by decide) ?_
        exact law_mine hx hb hml hown hts hA hK hX hX9 hbl hbA hL hi hiL hl hrel hga hgb hP hD hS kk
      · refine lv_tableIn (off := 221) (tgt := 263) hx hb dL_law_42 (by decide) (by decide) rfl (by decide) ?_
        exact law_tried hx hb hml hown hts hA hK hX hX9 hbl hbA hL hi hiL hl hrel hga hgb hP hD hS kk
      · refine lv_tableIn (off := 234) (tgt := 276) hx hb dL_law_42 (by decide) (by decide) rfl (by decide) ?_
        exact law_commit hx hb hml hown hts hA hK hX hX9 hbl hbA hL hi hiL hl hrel hga hgb hP hD hS kk
      · refine lv_tableIn (off := 247) (tgt := 289) hx hb dL_law_42 (by decide) (by decide) rfl (by decide) ?_
        exact law_count hx hb hml hown hts hA hK hX hX9 hbl hbA hL hi hiL hl hrel hga hgb hP hD hS kk
      · refine lv_tableIn (off := 260) (tgt := 302) hx hb dL_law_42 (by decide) (by decide) rfl (by decide) ?_
        exact law_head hx hb hml hown hts hA hK hX hX9 hbl hbA hL hi hiL hl hrel hga hgb hP hD hS kk
      · refine lv_tableIn (off := 283) (tgt := 325) hx hb dL_law_42 (by decide) (by decide) rfl (by decide) ?_
        exact law_cell hx hb hml hown hts hA hK hX hX9 hbl hbA hL hi hiL hl hrel hga hgb hP hD hS kk
      · refine lv_tableIn (off := 316) (tgt := 358) hx hb dL_law_42 (by decide) (by decide) rfl (by decide) ?_
        exact law_spoil hx hb hml hown hts hA hK hX hX9 hbl hbA hL hi hiL hl hrel hga hgb hP hD hS kk
      · refine lv_tableIn (off := 359) (tgt := 401) hx hb dL_law_42 (by decide) (by decide) rfl (by decide) ?_
        exact law_drop hx hb hml hown hts hA hK hX hX9 hbl hbA hL hi hiL hl hrel hga hgb hP hD hS kk
      · refine lv_tableIn (off := 372) (tgt := 414) hx hb dL_law_42 (by decide) (by decide) rfl (by decide) ?_
        exact law_may hx hb hml hown hts hA hK hX hX9 hbl hbA hL hi hiL hl hrel hga hgb hP hD hS kk
      · refine lv_tableIn (off := 395) (tgt := 437) hx hb dL_law_42 (by decide) (by decide) rfl (by decide) ?_
        exact law_find hx hb hml hown hts hA hK hX hX9 hbl hbA hL hi hiL hl hrel hga hgb hP hD hS kk
      · refine lv_tableIn (off := 418) (tgt := 460) hx hb dL_law_42 (by decide) (by decide) rfl (by decide) ?_
        exact law_stir hx hb hml hown hts hA hK hX hX9 hbl hbA hL hi hiL hl hrel hga hgb hP hD hS kk
      · refine lv_tableIn (off := 451) (tgt := 493) hx hb dL_law_42 (by decide) (by decide) rfl (by decide) ?_
        exact law_begin hx hb hml hown hts hA hK hX hX9 hbl hbA hL hi hiL hl hrel hga hgb hP hD hS kk
      · refine lv_tableIn (off := 464) (tgt := 506) hx hb dL_law_42 (by decide) (by decide) rfl (by decide) ?_
        exact law_audit hx hb hml hown hts hA hK hX hX9 hbl hbA hL hi hiL hl hrel hga hgb hP hD hS kk
      · refine lv_tableIn (off := 487) (tgt := 529) hx hb dL_law_42 (by decide) (by decide) rfl (by decide) ?_
        exact law_fault hx hb hml hown hts hA hK hX hX9 hbl hbA hL hi hiL hl hrel hga hgb hP hD hS kk
      · refine lv_tableIn (off := 500) (tgt := 542) hx hb dL_law_42 (by decide) (by decide) rfl (by decide) ?_
        exact law_way hx hb hml hown hts hA hK hX hX9 hbl hbA hL hi hiL hl hrel hga hgb hP hD hS kk
      · refine lv_tableIn (off := 533) (tgt := 575) hx hb dL_law_42 (by decide) (by decide) rfl (by decide) ?_
        exact law_prove hx hb hml hown hts hA hK hX hX9 hbl hbA hL hi hiL hl hrel hga hgb hP hD hS kk
      · refine lv_tableIn (off := 556) (tgt := 598) hx hb dL_law_42 (by decide) (by decide) rfl (by decide) ?_
        exact law_proof hx hb hml hown hts hA hK hX hX9 hbl hbA hL hi hiL hl hrel hga hgb hP hD hS kk
      · refine lv_tableIn (off := 579) (tgt := 621) hx hb dL_law_42 (by decide) (by decide) rfl (by decide) ?_
        exact law_forge hx hb hml hown hts hA hK hX hX9 hbl hbA hL hi hiL hl hrel hga hgb hP hD hS kk
      · refine lv_tableIn (off := 612) (tgt := 654) hx hb dL_law_42 (by decide) (by decide) rfl (by decide) ?_
        exact law_check hx hb hml hown hts hA hK hX hX9 hbl hbA hL hi hiL hl hrel hga hgb hP hD hS kk
      · refine lv_tableOut (tgt := 677) hx hb dL_law_42 (Or.inr (by rw [tI_N (by omega)]; omega)) (by decide) ?_
        exact kk _ _ _ _ _ _ _ _ _ _ _ _ _ _ _ _ _ _ _ _ _ _ _ _ _ _ _ _ _ hrel hga hgb hP hD hS
