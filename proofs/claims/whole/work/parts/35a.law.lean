theorem sl_N {p : Program} {l : Launch} {e : Env} {R : Room} {s : State} {m : MethodId} {args : Array Value} {below : List Frame} {meth : Method} {c : Code} {H : Heap} {locs : List Loc} {cells slots : Nat} {Q : State → Prop} {cc : ByteArray} {pc : Nat} {ls : Array Slot} {rest : List Value} {A : Nat → Prop} (hexec : p.tables.exec = Jvm.exec) (hb : c.code = cc) {q9 L : Nat} {xs : Nat → Int32} (hX : va_X q9 L xs s s.heap) (hbl : q9 < s.heap.size) (hbA : ¬ A q9) (hS : va_S A s.heap H locs) (k : Nat) (hk : k < L) (hL : L ≤ 2049) (hdg : decode cc pc = .ok (.iaload, 1))
    (kk : W p l e R s m args below meth c H locs cells slots Q (F0 m (pc + 1) ls (.int (xs k) :: rest))) : W p l e R s m args below meth c H locs cells slots Q (F0 m pc ls (.int (nI k) :: .ref q9 :: rest)) := by
  refine va_sld hexec hb hX hbl hbA hS (vp_in_nI hk (by omega)) hdg ?_
  rw [cl_nI hk (by omega)]; exact kk
set_option maxHeartbeats 4000000 in
set_option maxRecDepth 100000 in
theorem law_put {p : Program} {l : Launch} {e : Env} {s : State} {m : MethodId} {args : Array Value} {below : List Frame} {meth : Method} {c : Code} {A : Nat → Prop} {Q : State → Prop} {G : gG} {q9 L : Nat} {xs : Nat → Int32} {ls : Array Slot} {a b : Nat → Nat} (hx : p.tables.exec = Jvm.exec) (hb : c.code = cL_law) (hml : c.maxLocals = 4) (hown : s.vm.findClass RL = some m.cls) (hts : ∀ w ∈ wsL_law, w.before args s = true) (hA : ∀ q : Nat, s.heap.size ≤ q → A q) (hK : va_K G.1 vwCl (gT G) s) (hX : st_X G A s s.heap) (hX9 : va_X q9 L xs s s.heap) (hbl : q9 < s.heap.size) (hbA : ¬ A q9) (hL : L ≤ 2049) {i : Nat} (hi : 1 ≤ i) (hiL : i + 4 ≤ L) (hl : lv_has ls 4 [(0, .ref q9), (1, .ref (a 0)), (2, .ref (b 0)), (3, .int (nI i))]) {fm fh fw fb fc fd fr fp : Nat → Int32} {gc gd gw gf gp ga gb gh gg gx ge : Nat → Int32} {n k z t : Nat} {kn : Int32} {pl lf pn : Nat} {H : Heap} {locs : List Loc} (hrel : Rel fb fc fd fr fp n k z t kn pl lf pn gc gd gw gf gp) (hga : ∀ j, j < 64 → ga j = st_K j) (hgb : ∀ j, j < 8 → gb j = st_S j) (hP : va_P G.1 vwCl (wC G a fm fh fw fb fc fd fr fp n k z t kn pl lf pn ++ wMd G b gc gd gw gf gp ga gb gh gg gx ge n k z t kn pl lf pn) H) (hD : va_D A (wC G a fm fh fw fb fc fd fr fp n k z t kn pl lf pn ++ wMd G b gc gd gw gf gp ga gb gh gg gx ge n k z t kn pl lf pn)) (hS : va_S A s.heap H locs)
    (kk : ∀ (fm fh fw fb fc fd fr fp : Nat → Int32) (gc gd gw gf gp ga gb gh gg gx ge : Nat → Int32) (n k z t : Nat) (kn : Int32) (pl lf pn : Nat) (H : Heap) (locs : List Loc), Rel fb fc fd fr fp n k z t kn pl lf pn gc gd gw gf gp → (∀ j, j < 64 → ga j = st_K j) → (∀ j, j < 8 → gb j = st_S j) → va_P G.1 vwCl (wC G a fm fh fw fb fc fd fr fp n k z t kn pl lf pn ++ wMd G b gc gd gw gf gp ga gb gh gg gx ge n k z t kn pl lf pn) H → va_D A (wC G a fm fh fw fb fc fd fr fp n k z t kn pl lf pn ++ wMd G b gc gd gw gf gp ga gb gh gg gx ge n k z t kn pl lf pn) → va_S A s.heap H locs → W p l e room_1 s m args below meth c H locs 23 8649 Q (F0 m 677 ls [])) : W p l e room_1 s m args below meth c H locs 23 8649 Q (F0 m 148 ls []) := by
  obtain ⟨hB1, hB2, hB3, hB4, hB5, hB6, hB7⟩ := hrel.1
  refine lv_aload_n hx hb dL_law_148 rfl (lv_at hl 1 rfl) ?_
  refine lv_aload_n hx hb dL_law_149 rfl (lv_at hl 0 rfl) ?_
  refine lv_iload_n hx hb dL_law_150 rfl (lv_at hl 3 rfl) ?_
  refine lv_iconst (v := nI 1) hx hb dL_law_151 (by decide) ?_
  refine ad_N hx hb i 1 dL_law_152 ?_
  refine sl_N hx hb hX9 hbl hbA hS (i + 1) (by omega) hL dL_law_153 ?_
  refine call_Vi (wr := wMd G b gc gd gw gf gp ga gb gh gg gx ge n k z t kn pl lf pn) [.int (xs (i + 1))] [] ⟨hx, hb, hml, hown, hts⟩ hK hX hA hP hD hS (c_put l G _ a fm fh fw fb fc fd fr fp n k z t kn pl lf pn (xs (i + 1)) (by omega) (by omega) (by omega) (by omega) (by omega) (by omega) (by omega)) (cwV 1 hts gL_law_X2_put rfl rfl rfl (by decide +kernel) ⟨Nat.le_of_ble_eq_true rfl, Nat.le_of_ble_eq_true rfl⟩) 2 0 rfl rfl rfl [0, 1, 2, 3, 4, 5, 6, 7, 8, 9, 10] [11, 12, 13, 14, 15, 16, 17, 18, 19, 20, 21, 22] rfl rfl (by decide) (by decide) (by decide) rfl hl.1 (Nat.le_of_ble_eq_true rfl) dL_law_154 ⟨Nat.le_of_ble_eq_true rfl, Nat.le_of_ble_eq_true rfl⟩ (fun r1 u H locs hw1 hP hD hS => ?_)
  obtain ⟨fr1, k1, t1, kn1⟩ := u
  try dsimp only at hw1
  have hP : va_P G.1 vwCl (wC G a fm fh fw fb fc fd fr1 fp n k1 z t1 kn1 pl lf pn ++ wMd G b gc gd gw gf gp ga gb gh gg gx ge n k z t kn pl lf pn) H := hP.sub [12, 13, 14, 15, 16, 17, 18, 19, 20, 21, 22, 0, 1, 2, 3, 4, 5, 6, 7, 8, 9, 10, 11] rfl
  have hD : va_D A (wC G a fm fh fw fb fc fd fr1 fp n k1 z t1 kn1 pl lf pn ++ wMd G b gc gd gw gf gp ga gb gh gg gx ge n k z t kn pl lf pn) := hD.sub [12, 13, 14, 15, 16, 17, 18, 19, 20, 21, 22, 0, 1, 2, 3, 4, 5, 6, 7, 8, 9, 10, 11] (by decide) rfl
  refine lv_aload_n hx hb dL_law_157 rfl (lv_at hl 2 rfl) ?_
  refine lv_aload_n hx hb dL_law_158 rfl (lv_at hl 0 rfl) ?_
  refine lv_iload_n hx hb dL_law_159 rfl (lv_at hl 3 rfl) ?_
  refine lv_iconst (v := nI 1) hx hb dL_law_160 (by decide) ?_
  refine ad_N hx hb i 1 dL_law_161 ?_
  refine sl_N hx hb hX9 hbl hbA hS (i + 1) (by omega) hL dL_law_162 ?_
  refine call_Vi (wr := wC G a fm fh fw fb fc fd fr1 fp n k1 z t1 kn1 pl lf pn) [.int (xs (i + 1))] [.int r1] ⟨hx, hb, hml, hown, hts⟩ hK hX hA hP hD hS (m_put l G _ b gc gd gw gf gp ga gb gh gg gx ge n k z t kn pl lf pn (xs (i + 1)) (by omega) (by omega) (by omega) (by omega) (by omega) (by omega) (by omega) hga hgb) (cwV 1 hts gL_law_X3_put rfl rfl rfl (by decide +kernel) ⟨Nat.le_of_ble_eq_true rfl, Nat.le_of_ble_eq_true rfl⟩) 3 11 rfl rfl rfl [11, 12, 13, 14, 15, 16, 17, 18, 19, 20, 21, 22] [0, 1, 2, 3, 4, 5, 6, 7, 8, 9, 10] rfl rfl (by decide) (by decide) (by decide) rfl hl.1 (Nat.le_of_ble_eq_true rfl) dL_law_163 ⟨Nat.le_of_ble_eq_true rfl, Nat.le_of_ble_eq_true rfl⟩ (fun r2 u H locs hw2 hP hD hS => ?_)
  obtain ⟨gw2, k2, t2, kn2⟩ := u
  try dsimp only at hw2
  have hP : va_P G.1 vwCl (wC G a fm fh fw fb fc fd fr1 fp n k1 z t1 kn1 pl lf pn ++ wMd G b gc gd gw2 gf gp ga gb gh gg gx ge n k2 z t2 kn2 pl lf pn) H := hP
  have hD : va_D A (wC G a fm fh fw fb fc fd fr1 fp n k1 z t1 kn1 pl lf pn ++ wMd G b gc gd gw2 gf gp ga gb gh gg gx ge n k2 z t2 kn2 pl lf pn) := hD
  obtain ⟨er, ⟨rfl, rfl, rfl⟩, hrel⟩ := rel_put hrel hw1 hw2
  refine lv_icmp_eq (tgt := 677) hx hb dL_law_166 (by decide) (fun _ => ?_) (fun c9 => absurd er c9)
  exact kk _ _ _ _ _ _ _ _ _ _ _ _ _ _ _ _ _ _ _ _ _ _ _ _ _ _ _ _ _ hrel hga hgb hP hD hS
set_option maxHeartbeats 4000000 in
set_option maxRecDepth 100000 in
theorem law_takeBack {p : Program} {l : Launch} {e : Env} {s : State} {m : MethodId} {args : Array Value} {below : List Frame} {meth : Method} {c : Code} {A : Nat → Prop} {Q : State → Prop} {G : gG} {q9 L : Nat} {xs : Nat → Int32} {ls : Array Slot} {a b : Nat → Nat} (hx : p.tables.exec = Jvm.exec) (hb : c.code = cL_law) (hml : c.maxLocals = 4) (hown : s.vm.findClass RL = some m.cls) (hts : ∀ w ∈ wsL_law, w.before args s = true) (hA : ∀ q : Nat, s.heap.size ≤ q → A q) (hK : va_K G.1 vwCl (gT G) s) (hX : st_X G A s s.heap) (hX9 : va_X q9 L xs s s.heap) (hbl : q9 < s.heap.size) (hbA : ¬ A q9) (hL : L ≤ 2049) {i : Nat} (hi : 1 ≤ i) (hiL : i + 4 ≤ L) (hl : lv_has ls 4 [(0, .ref q9), (1, .ref (a 0)), (2, .ref (b 0)), (3, .int (nI i))]) {fm fh fw fb fc fd fr fp : Nat → Int32} {gc gd gw gf gp ga gb gh gg gx ge : Nat → Int32} {n k z t : Nat} {kn : Int32} {pl lf pn : Nat} {H : Heap} {locs : List Loc} (hrel : Rel fb fc fd fr fp n k z t kn pl lf pn gc gd gw gf gp) (hga : ∀ j, j < 64 → ga j = st_K j) (hgb : ∀ j, j < 8 → gb j = st_S j) (hP : va_P G.1 vwCl (wC G a fm fh fw fb fc fd fr fp n k z t kn pl lf pn ++ wMd G b gc gd gw gf gp ga gb gh gg gx ge n k z t kn pl lf pn) H) (hD : va_D A (wC G a fm fh fw fb fc fd fr fp n k z t kn pl lf pn ++ wMd G b gc gd gw gf gp ga gb gh gg gx ge n k z t kn pl lf pn)) (hS : va_S A s.heap H locs)
    (kk : ∀ (fm fh fw fb fc fd fr fp : Nat → Int32) (gc gd gw gf gp ga gb gh gg gx ge : Nat → Int32) (n k z t : Nat) (kn : Int32) (pl lf pn : Nat) (H : Heap) (locs : List Loc), Rel fb fc fd fr fp n k z t kn pl lf pn gc gd gw gf gp → (∀ j, j < 64 → ga j = st_K j) → (∀ j, j < 8 → gb j = st_S j) → va_P G.1 vwCl (wC G a fm fh fw fb fc fd fr fp n k z t kn pl lf pn ++ wMd G b gc gd gw gf gp ga gb gh gg gx ge n k z t kn pl lf pn) H → va_D A (wC G a fm fh fw fb fc fd fr fp n k z t kn pl lf pn ++ wMd G b gc gd gw gf gp ga gb gh gg gx ge n k z t kn pl lf pn) → va_S A s.heap H locs → W p l e room_1 s m args below meth c H locs 23 8649 Q (F0 m 677 ls [])) : W p l e room_1 s m args below meth c H locs 23 8649 Q (F0 m 171 ls []) := by
  obtain ⟨hB1, hB2, hB3, hB4, hB5, hB6, hB7⟩ := hrel.1
  refine lv_aload_n hx hb dL_law_171 rfl (lv_at hl 1 rfl) ?_
  refine lv_aload_n hx hb dL_law_172 rfl (lv_at hl 0 rfl) ?_
  refine lv_iload_n hx hb dL_law_173 rfl (lv_at hl 3 rfl) ?_
  refine lv_iconst (v := nI 1) hx hb dL_law_174 (by decide) ?_
  refine ad_N hx hb i 1 dL_law_175 ?_
  refine sl_N hx hb hX9 hbl hbA hS (i + 1) (by omega) hL dL_law_176 ?_
  refine call_Vi (wr := wMd G b gc gd gw gf gp ga gb gh gg gx ge n k z t kn pl lf pn) [.int (xs (i + 1))] [] ⟨hx, hb, hml, hown, hts⟩ hK hX hA hP hD hS (c_takeBack l G _ a fm fh fw fb fc fd fr fp n k z t kn pl lf pn (xs (i + 1)) (by omega) (by omega) (by omega) (by omega) (by omega) (by omega) (by omega)) (cwV 1 hts gL_law_X2_takeBack rfl rfl rfl (by decide +kernel) ⟨Nat.le_of_ble_eq_true rfl, Nat.le_of_ble_eq_true rfl⟩) 2 0 rfl rfl rfl [0, 1, 2, 3, 4, 5, 6, 7, 8, 9, 10] [11, 12, 13, 14, 15, 16, 17, 18, 19, 20, 21, 22] rfl rfl (by decide) (by decide) (by decide) rfl hl.1 (Nat.le_of_ble_eq_true rfl) dL_law_177 ⟨Nat.le_of_ble_eq_true rfl, Nat.le_of_ble_eq_true rfl⟩ (fun r1 u H locs hw1 hP hD hS => ?_)
  obtain ⟨fr1, k1, t1, kn1⟩ := u
  try dsimp only at hw1
  have hP : va_P G.1 vwCl (wC G a fm fh fw fb fc fd fr1 fp n k1 z t1 kn1 pl lf pn ++ wMd G b gc gd gw gf gp ga gb gh gg gx ge n k z t kn pl lf pn) H := hP.sub [12, 13, 14, 15, 16, 17, 18, 19, 20, 21, 22, 0, 1, 2, 3, 4, 5, 6, 7, 8, 9, 10, 11] rfl
  have hD : va_D A (wC G a fm fh fw fb fc fd fr1 fp n k1 z t1 kn1 pl lf pn ++ wMd G b gc gd gw gf gp ga gb gh gg gx ge n k z t kn pl lf pn) := hD.sub [12, 13, 14, 15, 16, 17, 18, 19, 20, 21, 22, 0, 1, 2, 3, 4, 5, 6, 7, 8, 9, 10, 11] (by decide) rfl
  refine lv_aload_n hx hb dL_law_180 rfl (lv_at hl 2 rfl) ?_
  refine lv_aload_n hx hb dL_law_181 rfl (lv_at hl 0 rfl) ?_
  refine lv_iload_n hx hb dL_law_182 rfl (lv_at hl 3 rfl) ?_
  refine lv_iconst (v := nI 1) hx hb dL_law_183 (by decide) ?_
  refine ad_N hx hb i 1 dL_law_184 ?_
  refine sl_N hx hb hX9 hbl hbA hS (i + 1) (by omega) hL dL_law_185 ?_
  refine call_Vi (wr := wC G a fm fh fw fb fc fd fr1 fp n k1 z t1 kn1 pl lf pn) [.int (xs (i + 1))] [.int r1] ⟨hx, hb, hml, hown, hts⟩ hK hX hA hP hD hS (m_takeBack l G _ b gc gd gw gf gp ga gb gh gg gx ge n k z t kn pl lf pn (xs (i + 1)) (by omega) (by omega) (by omega) (by omega) (by omega) (by omega) (by omega) hga hgb) (cwV 1 hts gL_law_X3_takeBack rfl rfl rfl (by decide +kernel) ⟨Nat.le_of_ble_eq_true rfl, Nat.le_of_ble_eq_true rfl⟩) 3 11 rfl rfl rfl [11, 12, 13, 14, 15, 16, 17, 18, 19, 20, 21, 22] [0, 1, 2, 3, 4, 5, 6, 7, 8, 9, 10] rfl rfl (by decide) (by decide) (by decide) rfl hl.1 (Nat.le_of_ble_eq_true rfl) dL_law_186 ⟨Nat.le_of_ble_eq_true rfl, Nat.le_of_ble_eq_true rfl⟩ (fun r2 u H locs hw2 hP hD hS => ?_)
  obtain ⟨k2, t2, kn2⟩ := u
  try dsimp only at hw2
  have hP : va_P G.1 vwCl (wC G a fm fh fw fb fc fd fr1 fp n k1 z t1 kn1 pl lf pn ++ wMd G b gc gd gw gf gp ga gb gh gg gx ge n k2 z t2 kn2 pl lf pn) H := hP
  have hD : va_D A (wC G a fm fh fw fb fc fd fr1 fp n k1 z t1 kn1 pl lf pn ++ wMd G b gc gd gw gf gp ga gb gh gg gx ge n k2 z t2 kn2 pl lf pn) := hD
  obtain ⟨er, ⟨rfl, rfl, rfl⟩, hrel⟩ := rel_takeBack hrel hw1 hw2
  refine lv_icmp_eq (tgt := 677) hx hb dL_law_189 (by decide) (fun _ => ?_) (fun c9 => absurd er c9)
  exact kk _ _ _ _ _ _ _ _ _ _ _ _ _ _ _ _ _ _ _ _ _ _ _ _ _ _ _ _ _ hrel hga hgb hP hD hS
set_option maxHeartbeats 4000000 in
set_option maxRecDepth 100000 in
theorem law_pending {p : Program} {l : Launch} {e : Env} {s : State} {m : MethodId} {args : Array Value} {below : List Frame} {meth : Method} {c : Code} {A : Nat → Prop} {Q : State → Prop} {G : gG} {q9 L : Nat} {xs : Nat → Int32} {ls : Array Slot} {a b : Nat → Nat} (hx : p.tables.exec = Jvm.exec) (hb : c.code = cL_law) (hml : c.maxLocals = 4) (hown : s.vm.findClass RL = some m.cls) (hts : ∀ w ∈ wsL_law, w.before args s = true) (hA : ∀ q : Nat, s.heap.size ≤ q → A q) (hK : va_K G.1 vwCl (gT G) s) (hX : st_X G A s s.heap) (hX9 : va_X q9 L xs s s.heap) (hbl : q9 < s.heap.size) (hbA : ¬ A q9) (hL : L ≤ 2049) {i : Nat} (hi : 1 ≤ i) (hiL : i + 4 ≤ L) (hl : lv_has ls 4 [(0, .ref q9), (1, .ref (a 0)), (2, .ref (b 0)), (3, .int (nI i))]) {fm fh fw fb fc fd fr fp : Nat → Int32} {gc gd gw gf gp ga gb gh gg gx ge : Nat → Int32} {n k z t : Nat} {kn : Int32} {pl lf pn : Nat} {H : Heap} {locs : List Loc} (hrel : Rel fb fc fd fr fp n k z t kn pl lf pn gc gd gw gf gp) (hga : ∀ j, j < 64 → ga j = st_K j) (hgb : ∀ j, j < 8 → gb j = st_S j) (hP : va_P G.1 vwCl (wC G a fm fh fw fb fc fd fr fp n k z t kn pl lf pn ++ wMd G b gc gd gw gf gp ga gb gh gg gx ge n k z t kn pl lf pn) H) (hD : va_D A (wC G a fm fh fw fb fc fd fr fp n k z t kn pl lf pn ++ wMd G b gc gd gw gf gp ga gb gh gg gx ge n k z t kn pl lf pn)) (hS : va_S A s.heap H locs)
    (kk : ∀ (fm fh fw fb fc fd fr fp : Nat → Int32) (gc gd gw gf gp ga gb gh gg gx ge : Nat → Int32) (n k z t : Nat) (kn : Int32) (pl lf pn : Nat) (H : Heap) (locs : List Loc), Rel fb fc fd fr fp n k z t kn pl lf pn gc gd gw gf gp → (∀ j, j < 64 → ga j = st_K j) → (∀ j, j < 8 → gb j = st_S j) → va_P G.1 vwCl (wC G a fm fh fw fb fc fd fr fp n k z t kn pl lf pn ++ wMd G b gc gd gw gf gp ga gb gh gg gx ge n k z t kn pl lf pn) H → va_D A (wC G a fm fh fw fb fc fd fr fp n k z t kn pl lf pn ++ wMd G b gc gd gw gf gp ga gb gh gg gx ge n k z t kn pl lf pn) → va_S A s.heap H locs → W p l e room_1 s m args below meth c H locs 23 8649 Q (F0 m 677 ls [])) : W p l e room_1 s m args below meth c H locs 23 8649 Q (F0 m 194 ls []) := by
  obtain ⟨hB1, hB2, hB3, hB4, hB5, hB6, hB7⟩ := hrel.1
  refine lv_aload_n hx hb dL_law_194 rfl (lv_at hl 1 rfl) ?_
  refine lv_aload_n hx hb dL_law_195 rfl (lv_at hl 0 rfl) ?_
  refine lv_iload_n hx hb dL_law_196 rfl (lv_at hl 3 rfl) ?_
  refine lv_iconst (v := nI 1) hx hb dL_law_197 (by decide) ?_
  refine ad_N hx hb i 1 dL_law_198 ?_
  refine sl_N hx hb hX9 hbl hbA hS (i + 1) (by omega) hL dL_law_199 ?_
  refine call_Vi (wr := wMd G b gc gd gw gf gp ga gb gh gg gx ge n k z t kn pl lf pn) [.int (xs (i + 1))] [] ⟨hx, hb, hml, hown, hts⟩ hK hX hA hP hD hS (c_pending l G _ a fm fh fw fb fc fd fr fp n k z t kn pl lf pn (xs (i + 1)) (by omega) (by omega) (by omega) (by omega) (by omega) (by omega) (by omega)) (cwV 1 hts gL_law_X2_pending rfl rfl rfl (by decide +kernel) ⟨Nat.le_of_ble_eq_true rfl, Nat.le_of_ble_eq_true rfl⟩) 2 0 rfl rfl rfl [0, 1, 2, 3, 4, 5, 6, 7, 8, 9, 10] [11, 12, 13, 14, 15, 16, 17, 18, 19, 20, 21, 22] rfl rfl (by decide) (by decide) (by decide) rfl hl.1 (Nat.le_of_ble_eq_true rfl) dL_law_200 ⟨Nat.le_of_ble_eq_true rfl, Nat.le_of_ble_eq_true rfl⟩ (fun r1 u H locs hw1 hP hD hS => ?_)
  have hP : va_P G.1 vwCl (wC G a fm fh fw fb fc fd fr fp n k z t kn pl lf pn ++ wMd G b gc gd gw gf gp ga gb gh gg gx ge n k z t kn pl lf pn) H := hP.sub [12, 13, 14, 15, 16, 17, 18, 19, 20, 21, 22, 0, 1, 2, 3, 4, 5, 6, 7, 8, 9, 10, 11] rfl
  have hD : va_D A (wC G a fm fh fw fb fc fd fr fp n k z t kn pl lf pn ++ wMd G b gc gd gw gf gp ga gb gh gg gx ge n k z t kn pl lf pn) := hD.sub [12, 13, 14, 15, 16, 17, 18, 19, 20, 21, 22, 0, 1, 2, 3, 4, 5, 6, 7, 8, 9, 10, 11] (by decide) rfl
  refine lv_aload_n hx hb dL_law_203 rfl (lv_at hl 2 rfl) ?_
  refine lv_aload_n hx hb dL_law_204 rfl (lv_at hl 0 rfl) ?_
  refine lv_iload_n hx hb dL_law_205 rfl (lv_at hl 3 rfl) ?_
  refine lv_iconst (v := nI 1) hx hb dL_law_206 (by decide) ?_
  refine ad_N hx hb i 1 dL_law_207 ?_
  refine sl_N hx hb hX9 hbl hbA hS (i + 1) (by omega) hL dL_law_208 ?_
  refine call_Vi (wr := wC G a fm fh fw fb fc fd fr fp n k z t kn pl lf pn) [.int (xs (i + 1))] [.int r1] ⟨hx, hb, hml, hown, hts⟩ hK hX hA hP hD hS (m_pending l G _ b gc gd gw gf gp ga gb gh gg gx ge n k z t kn pl lf pn (xs (i + 1)) (by omega) (by omega) (by omega) (by omega) (by omega) (by omega) (by omega) hga hgb) (cwV 1 hts gL_law_X3_pending rfl rfl rfl (by decide +kernel) ⟨Nat.le_of_ble_eq_true rfl, Nat.le_of_ble_eq_true rfl⟩) 3 11 rfl rfl rfl [11, 12, 13, 14, 15, 16, 17, 18, 19, 20, 21, 22] [0, 1, 2, 3, 4, 5, 6, 7, 8, 9, 10] rfl rfl (by decide) (by decide) (by decide) rfl hl.1 (Nat.le_of_ble_eq_true rfl) dL_law_209 ⟨Nat.le_of_ble_eq_true rfl, Nat.le_of_ble_eq_true rfl⟩ (fun r2 u H locs hw2 hP hD hS => ?_)
  have hP : va_P G.1 vwCl (wC G a fm fh fw fb fc fd fr fp n k z t kn pl lf pn ++ wMd G b gc gd gw gf gp ga gb gh gg gx ge n k z t kn pl lf pn) H := hP
  have hD : va_D A (wC G a fm fh fw fb fc fd fr fp n k z t kn pl lf pn ++ wMd G b gc gd gw gf gp ga gb gh gg gx ge n k z t kn pl lf pn) := hD
  have er := hw1.trans ((rel_pending hrel _).trans hw2.symm)
  refine lv_icmp_eq (tgt := 677) hx hb dL_law_212 (by decide) (fun _ => ?_) (fun c9 => absurd er c9)
  exact kk _ _ _ _ _ _ _ _ _ _ _ _ _ _ _ _ _ _ _ _ _ _ _ _ _ _ _ _ _ hrel hga hgb hP hD hS
set_option maxHeartbeats 4000000 in
set_option maxRecDepth 100000 in
theorem law_difficulty {p : Program} {l : Launch} {e : Env} {s : State} {m : MethodId} {args : Array Value} {below : List Frame} {meth : Method} {c : Code} {A : Nat → Prop} {Q : State → Prop} {G : gG} {q9 L : Nat} {xs : Nat → Int32} {ls : Array Slot} {a b : Nat → Nat} (hx : p.tables.exec = Jvm.exec) (hb : c.code = cL_law) (hml : c.maxLocals = 4) (hown : s.vm.findClass RL = some m.cls) (hts : ∀ w ∈ wsL_law, w.before args s = true) (hA : ∀ q : Nat, s.heap.size ≤ q → A q) (hK : va_K G.1 vwCl (gT G) s) (hX : st_X G A s s.heap) (hX9 : va_X q9 L xs s s.heap) (hbl : q9 < s.heap.size) (hbA : ¬ A q9) (hL : L ≤ 2049) {i : Nat} (hi : 1 ≤ i) (hiL : i + 4 ≤ L) (hl : lv_has ls 4 [(0, .ref q9), (1, .ref (a 0)), (2, .ref (b 0)), (3, .int (nI i))]) {fm fh fw fb fc fd fr fp : Nat → Int32} {gc gd gw gf gp ga gb gh gg gx ge : Nat → Int32} {n k z t : Nat} {kn : Int32} {pl lf pn : Nat} {H : Heap} {locs : List Loc} (hrel : Rel fb fc fd fr fp n k z t kn pl lf pn gc gd gw gf gp) (hga : ∀ j, j < 64 → ga j = st_K j) (hgb : ∀ j, j < 8 → gb j = st_S j) (hP : va_P G.1 vwCl (wC G a fm fh fw fb fc fd fr fp n k z t kn pl lf pn ++ wMd G b gc gd gw gf gp ga gb gh gg gx ge n k z t kn pl lf pn) H) (hD : va_D A (wC G a fm fh fw fb fc fd fr fp n k z t kn pl lf pn ++ wMd G b gc gd gw gf gp ga gb gh gg gx ge n k z t kn pl lf pn)) (hS : va_S A s.heap H locs)
    (kk : ∀ (fm fh fw fb fc fd fr fp : Nat → Int32) (gc gd gw gf gp ga gb gh gg gx ge : Nat → Int32) (n k z t : Nat) (kn : Int32) (pl lf pn : Nat) (H : Heap) (locs : List Loc), Rel fb fc fd fr fp n k z t kn pl lf pn gc gd gw gf gp → (∀ j, j < 64 → ga j = st_K j) → (∀ j, j < 8 → gb j = st_S j) → va_P G.1 vwCl (wC G a fm fh fw fb fc fd fr fp n k z t kn pl lf pn ++ wMd G b gc gd gw gf gp ga gb gh gg gx ge n k z t kn pl lf pn) H → va_D A (wC G a fm fh fw fb fc fd fr fp n k z t kn pl lf pn ++ wMd G b gc gd gw gf gp ga gb gh gg gx ge n k z t kn pl lf pn) → va_S A s.heap H locs → W p l e room_1 s m args below meth c H locs 23 8649 Q (F0 m 677 ls [])) : W p l e room_1 s m args below meth c H locs 23 8649 Q (F0 m 217 ls []) := by
  obtain ⟨hB1, hB2, hB3, hB4, hB5, hB6, hB7⟩ := hrel.1
  refine lv_aload_n hx hb dL_law_217 rfl (lv_at hl 1 rfl) ?_
  refine lv_aload_n hx hb dL_law_218 rfl (lv_at hl 0 rfl) ?_
  refine lv_iload_n hx hb dL_law_219 rfl (lv_at hl 3 rfl) ?_
  refine lv_iconst (v := nI 1) hx hb dL_law_220 (by decide) ?_
  refine ad_N hx hb i 1 dL_law_221 ?_
  refine sl_N hx hb hX9 hbl hbA hS (i + 1) (by omega) hL dL_law_222 ?_
  refine call_Vi (wr := wMd G b gc gd gw gf gp ga gb gh gg gx ge n k z t kn pl lf pn) [.int (xs (i + 1))] [] ⟨hx, hb, hml, hown, hts⟩ hK hX hA hP hD hS (c_difficulty l G _ a fm fh fw fb fc fd fr fp n k z t kn pl lf pn (xs (i + 1)) (by omega) (by omega) (by omega) (by omega) (by omega) (by omega) (by omega)) (cwV 1 hts gL_law_X2_difficulty rfl rfl rfl (by decide +kernel) ⟨Nat.le_of_ble_eq_true rfl, Nat.le_of_ble_eq_true rfl⟩) 2 0 rfl rfl rfl [0, 1, 2, 3, 4, 5, 6, 7, 8, 9, 10] [11, 12, 13, 14, 15, 16, 17, 18, 19, 20, 21, 22] rfl rfl (by decide) (by decide) (by decide) rfl hl.1 (Nat.le_of_ble_eq_true rfl) dL_law_223 ⟨Nat.le_of_ble_eq_true rfl, Nat.le_of_ble_eq_true rfl⟩ (fun r1 u H locs hw1 hP hD hS => ?_)
  obtain ⟨z1, t1, kn1⟩ := u
  try dsimp only at hw1
  have hP : va_P G.1 vwCl (wC G a fm fh fw fb fc fd fr fp n k z1 t1 kn1 pl lf pn ++ wMd G b gc gd gw gf gp ga gb gh gg gx ge n k z t kn pl lf pn) H := hP.sub [12, 13, 14, 15, 16, 17, 18, 19, 20, 21, 22, 0, 1, 2, 3, 4, 5, 6, 7, 8, 9, 10, 11] rfl
  have hD : va_D A (wC G a fm fh fw fb fc fd fr fp n k z1 t1 kn1 pl lf pn ++ wMd G b gc gd gw gf gp ga gb gh gg gx ge n k z t kn pl lf pn) := hD.sub [12, 13, 14, 15, 16, 17, 18, 19, 20, 21, 22, 0, 1, 2, 3, 4, 5, 6, 7, 8, 9, 10, 11] (by decide) rfl
  refine lv_aload_n hx hb dL_law_226 rfl (lv_at hl 2 rfl) ?_
  refine lv_aload_n hx hb dL_law_227 rfl (lv_at hl 0 rfl) ?_
  refine lv_iload_n hx hb dL_law_228 rfl (lv_at hl 3 rfl) ?_
  refine lv_iconst (v := nI 1) hx hb dL_law_229 (by decide) ?_
  refine ad_N hx hb i 1 dL_law_230 ?_
  refine sl_N hx hb hX9 hbl hbA hS (i + 1) (by omega) hL dL_law_231 ?_
  refine call_Vi (wr := wC G a fm fh fw fb fc fd fr fp n k z1 t1 kn1 pl lf pn) [.int (xs (i + 1))] [.int r1] ⟨hx, hb, hml, hown, hts⟩ hK hX hA hP hD hS (m_difficulty l G _ b gc gd gw gf gp ga gb gh gg gx ge n k z t kn pl lf pn (xs (i + 1)) (by omega) (by omega) (by omega) (by omega) (by omega) (by omega) (by omega) hga hgb) (cwV 1 hts gL_law_X3_difficulty rfl rfl rfl (by decide +kernel) ⟨Nat.le_of_ble_eq_true rfl, Nat.le_of_ble_eq_true rfl⟩) 3 11 rfl rfl rfl [11, 12, 13, 14, 15, 16, 17, 18, 19, 20, 21, 22] [0, 1, 2, 3, 4, 5, 6, 7, 8, 9, 10] rfl rfl (by decide) (by decide) (by decide) rfl hl.1 (Nat.le_of_ble_eq_true rfl) dL_law_232 ⟨Nat.le_of_ble_eq_true rfl, Nat.le_of_ble_eq_true rfl⟩ (fun r2 u H locs hw2 hP hD hS => ?_)
  obtain ⟨z2, t2, kn2⟩ := u
  try dsimp only at hw2
  have hP : va_P G.1 vwCl (wC G a fm fh fw fb fc fd fr fp n k z1 t1 kn1 pl lf pn ++ wMd G b gc gd gw gf gp ga gb gh gg gx ge n k z2 t2 kn2 pl lf pn) H := hP
  have hD : va_D A (wC G a fm fh fw fb fc fd fr fp n k z1 t1 kn1 pl lf pn ++ wMd G b gc gd gw gf gp ga gb gh gg gx ge n k z2 t2 kn2 pl lf pn) := hD
  obtain ⟨er, ⟨rfl, rfl, rfl⟩, hrel⟩ := rel_difficulty hrel hw1 hw2
  refine lv_icmp_eq (tgt := 677) hx hb dL_law_235 (by decide) (fun _ => ?_) (fun c9 => absurd er c9)
  exact kk _ _ _ _ _ _ _ _ _ _ _ _ _ _ _ _ _ _ _ _ _ _ _ _ _ _ _ _ _ hrel hga hgb hP hD hS
set_option maxHeartbeats 4000000 in
set_option maxRecDepth 100000 in
theorem law_mine {p : Program} {l : Launch} {e : Env} {s : State} {m : MethodId} {args : Array Value} {below : List Frame} {meth : Method} {c : Code} {A : Nat → Prop} {Q : State → Prop} {G : gG} {q9 L : Nat} {xs : Nat → Int32} {ls : Array Slot} {a b : Nat → Nat} (hx : p.tables.exec = Jvm.exec) (hb : c.code = cL_law) (hml : c.maxLocals = 4) (hown : s.vm.findClass RL = some m.cls) (hts : ∀ w ∈ wsL_law, w.before args s = true) (hA : ∀ q : Nat, s.heap.size ≤ q → A q) (hK : va_K G.1 vwCl (gT G) s) (hX : st_X G A s s.heap) (hX9 : va_X q9 L xs s s.heap) (hbl : q9 < s.heap.size) (hbA : ¬ A q9) (hL : L ≤ 2049) {i : Nat} (hi : 1 ≤ i) (hiL : i + 4 ≤ L) (hl : lv_has ls 4 [(0, .ref q9), (1, .ref (a 0)), (2, .ref (b 0)), (3, .int (nI i))]) {fm fh fw fb fc fd fr fp : Nat → Int32} {gc gd gw gf gp ga gb gh gg gx ge : Nat → Int32} {n k z t : Nat} {kn : Int32} {pl lf pn : Nat} {H : Heap} {locs : List Loc} (hrel : Rel fb fc fd fr fp n k z t kn pl lf pn gc gd gw gf gp) (hga : ∀ j, j < 64 → ga j = st_K j) (hgb : ∀ j, j < 8 → gb j = st_S j) (hP : va_P G.1 vwCl (wC G a fm fh fw fb fc fd fr fp n k z t kn pl lf pn ++ wMd G b gc gd gw gf gp ga gb gh gg gx ge n k z t kn pl lf pn) H) (hD : va_D A (wC G a fm fh fw fb fc fd fr fp n k z t kn pl lf pn ++ wMd G b gc gd gw gf gp ga gb gh gg gx ge n k z t kn pl lf pn)) (hS : va_S A s.heap H locs)
    (kk : ∀ (fm fh fw fb fc fd fr fp : Nat → Int32) (gc gd gw gf gp ga gb gh gg gx ge : Nat → Int32) (n k z t : Nat) (kn : Int32) (pl lf pn : Nat) (H : Heap) (locs : List Loc), Rel fb fc fd fr fp n k z t kn pl lf pn gc gd gw gf gp → (∀ j, j < 64 → ga j = st_K j) → (∀ j, j < 8 → gb j = st_S j) → va_P G.1 vwCl (wC G a fm fh fw fb fc fd fr fp n k z t kn pl lf pn ++ wMd G b gc gd gw gf gp ga gb gh gg gx ge n k z t kn pl lf pn) H → va_D A (wC G a fm fh fw fb fc fd fr fp n k z t kn pl lf pn ++ wMd G b gc gd gw gf gp ga gb gh gg gx ge n k z t kn pl lf pn) → va_S A s.heap H locs → W p l e room_1 s m args below meth c H locs 23 8649 Q (F0 m 677 ls [])) : W p l e room_1 s m args below meth c H locs 23 8649 Q (F0 m 240 ls []) := by
  obtain ⟨hB1, hB2, hB3, hB4, hB5, hB6, hB7⟩ := hrel.1
  refine lv_aload_n hx hb dL_law_240 rfl (lv_at hl 1 rfl) ?_
  refine lv_aload_n hx hb dL_law_241 rfl (lv_at hl 0 rfl) ?_
  refine lv_iload_n hx hb dL_law_242 rfl (lv_at hl 3 rfl) ?_
  refine lv_iconst (v := nI 1) hx hb dL_law_243 (by decide) ?_
  refine ad_N hx hb i 1 dL_law_244 ?_
  refine sl_N hx hb hX9 hbl hbA hS (i + 1) (by omega) hL dL_law_245 ?_
  refine call_Vi (wr := wMd G b gc gd gw gf gp ga gb gh gg gx ge n k z t kn pl lf pn) [.int (xs (i + 1))] [] ⟨hx, hb, hml, hown, hts⟩ hK hX hA hP hD hS (c_mine2 l G _ a fm fh fw fb fc fd fr fp n k z t kn pl lf pn (xs (i + 1)) (by omega) (by omega) (by omega) (by omega) (by omega) (by omega) (by omega)) (cwV 1 hts gL_law_X2_mine rfl rfl rfl (by decide +kernel) ⟨Nat.le_of_ble_eq_true rfl, Nat.le_of_ble_eq_true rfl⟩) 2 0 rfl rfl rfl [0, 1, 2, 3, 4, 5, 6, 7, 8, 9, 10] [11, 12, 13, 14, 15, 16, 17, 18, 19, 20, 21, 22] rfl rfl (by decide) (by decide) (by decide) rfl hl.1 (Nat.le_of_ble_eq_true rfl) dL_law_246 ⟨Nat.le_of_ble_eq_true rfl, Nat.le_of_ble_eq_true rfl⟩ (fun r1 u H locs hw1 hP hD hS => ?_)
  obtain ⟨fm1, fh1, fw1, fr1, t1, kn1⟩ := u
  try dsimp only at hw1
  have hP : va_P G.1 vwCl (wC G a fm1 fh1 fw1 fb fc fd fr1 fp n k z t1 kn1 pl lf pn ++ wMd G b gc gd gw gf gp ga gb gh gg gx ge n k z t kn pl lf pn) H := hP.sub [12, 13, 14, 15, 16, 17, 18, 19, 20, 21, 22, 0, 1, 2, 3, 4, 5, 6, 7, 8, 9, 10, 11] rfl
  have hD : va_D A (wC G a fm1 fh1 fw1 fb fc fd fr1 fp n k z t1 kn1 pl lf pn ++ wMd G b gc gd gw gf gp ga gb gh gg gx ge n k z t kn pl lf pn) := hD.sub [12, 13, 14, 15, 16, 17, 18, 19, 20, 21, 22, 0, 1, 2, 3, 4, 5, 6, 7, 8, 9, 10, 11] (by decide) rfl
  refine lv_aload_n hx hb dL_law_249 rfl (lv_at hl 2 rfl) ?_
  refine lv_aload_n hx hb dL_law_250 rfl (lv_at hl 0 rfl) ?_
  refine lv_iload_n hx hb dL_law_251 rfl (lv_at hl 3 rfl) ?_
  refine lv_iconst (v := nI 1) hx hb dL_law_252 (by decide) ?_
  refine ad_N hx hb i 1 dL_law_253 ?_
  refine sl_N hx hb hX9 hbl hbA hS (i + 1) (by omega) hL dL_law_254 ?_
  refine call_Vi (wr := wC G a fm1 fh1 fw1 fb fc fd fr1 fp n k z t1 kn1 pl lf pn) [.int (xs (i + 1))] [.int r1] ⟨hx, hb, hml, hown, hts⟩ hK hX hA hP hD hS (m_mine2 l G _ b gc gd gw gf gp ga gb gh gg gx ge n k z t kn pl lf pn (xs (i + 1)) (by omega) (by omega) (by omega) (by omega) (by omega) (by omega) (by omega) hga hgb hrel.kn_neg) (cwV 1 hts gL_law_X3_mine rfl rfl rfl (by decide +kernel) ⟨Nat.le_of_ble_eq_true rfl, Nat.le_of_ble_eq_true rfl⟩) 3 11 rfl rfl rfl [11, 12, 13, 14, 15, 16, 17, 18, 19, 20, 21, 22] [0, 1, 2, 3, 4, 5, 6, 7, 8, 9, 10] rfl rfl (by decide) (by decide) (by decide) rfl hl.1 (Nat.le_of_ble_eq_true rfl) dL_law_255 ⟨Nat.le_of_ble_eq_true rfl, Nat.le_of_ble_eq_true rfl⟩ (fun r2 u H locs hw2 hP hD hS => ?_)
  obtain ⟨gh2, gg2, gx2, ge2, t2, kn2⟩ := u
  try dsimp only at hw2
  have hP : va_P G.1 vwCl (wC G a fm1 fh1 fw1 fb fc fd fr1 fp n k z t1 kn1 pl lf pn ++ wMd G b gc gd gw gf gp ga gb gh2 gg2 gx2 ge2 n k z t2 kn2 pl lf pn) H := hP
  have hD : va_D A (wC G a fm1 fh1 fw1 fb fc fd fr1 fp n k z t1 kn1 pl lf pn ++ wMd G b gc gd gw gf gp ga gb gh2 gg2 gx2 ge2 n k z t2 kn2 pl lf pn) := hD
  obtain ⟨er, ⟨rfl, rfl⟩, hrel⟩ := rel_mine hrel hw1 hw2
  refine lv_icmp_eq (tgt := 677) hx hb dL_law_258 (by decide) (fun _ => ?_) (fun c9 => absurd er c9)
  exact kk _ _ _ _ _ _ _ _ _ _ _ _ _ _ _ _ _ _ _ _ _ _ _ _ _ _ _ _ _ hrel hga hgb hP hD hS
set_option maxHeartbeats 4000000 in
set_option maxRecDepth 100000 in
theorem law_tried {p : Program} {l : Launch} {e : Env} {s : State} {m : MethodId} {args : Array Value} {below : List Frame} {meth : Method} {c : Code} {A : Nat → Prop} {Q : State → Prop} {G : gG} {q9 L : Nat} {xs : Nat → Int32} {ls : Array Slot} {a b : Nat → Nat} (hx : p.tables.exec = Jvm.exec) (hb : c.code = cL_law) (hml : c.maxLocals = 4) (hown : s.vm.findClass RL = some m.cls) (hts : ∀ w ∈ wsL_law, w.before args s = true) (hA : ∀ q : Nat, s.heap.size ≤ q → A q) (hK : va_K G.1 vwCl (gT G) s) (hX : st_X G A s s.heap) (hX9 : va_X q9 L xs s s.heap) (hbl : q9 < s.heap.size) (hbA : ¬ A q9) (hL : L ≤ 2049) {i : Nat} (hi : 1 ≤ i) (hiL : i + 4 ≤ L) (hl : lv_has ls 4 [(0, .ref q9), (1, .ref (a 0)), (2, .ref (b 0)), (3, .int (nI i))]) {fm fh fw fb fc fd fr fp : Nat → Int32} {gc gd gw gf gp ga gb gh gg gx ge : Nat → Int32} {n k z t : Nat} {kn : Int32} {pl lf pn : Nat} {H : Heap} {locs : List Loc} (hrel : Rel fb fc fd fr fp n k z t kn pl lf pn gc gd gw gf gp) (hga : ∀ j, j < 64 → ga j = st_K j) (hgb : ∀ j, j < 8 → gb j = st_S j) (hP : va_P G.1 vwCl (wC G a fm fh fw fb fc fd fr fp n k z t kn pl lf pn ++ wMd G b gc gd gw gf gp ga gb gh gg gx ge n k z t kn pl lf pn) H) (hD : va_D A (wC G a fm fh fw fb fc fd fr fp n k z t kn pl lf pn ++ wMd G b gc gd gw gf gp ga gb gh gg gx ge n k z t kn pl lf pn)) (hS : va_S A s.heap H locs)
    (kk : ∀ (fm fh fw fb fc fd fr fp : Nat → Int32) (gc gd gw gf gp ga gb gh gg gx ge : Nat → Int32) (n k z t : Nat) (kn : Int32) (pl lf pn : Nat) (H : Heap) (locs : List Loc), Rel fb fc fd fr fp n k z t kn pl lf pn gc gd gw gf gp → (∀ j, j < 64 → ga j = st_K j) → (∀ j, j < 8 → gb j = st_S j) → va_P G.1 vwCl (wC G a fm fh fw fb fc fd fr fp n k z t kn pl lf pn ++ wMd G b gc gd gw gf gp ga gb gh gg gx ge n k z t kn pl lf pn) H → va_D A (wC G a fm fh fw fb fc fd fr fp n k z t kn pl lf pn ++ wMd G b gc gd gw gf gp ga gb gh gg gx ge n k z t kn pl lf pn) → va_S A s.heap H locs → W p l e room_1 s m args below meth c H locs 23 8649 Q (F0 m 677 ls [])) : W p l e room_1 s m args below meth c H locs 23 8649 Q (F0 m 263 ls []) := by
  obtain ⟨hB1, hB2, hB3, hB4, hB5, hB6, hB7⟩ := hrel.1
  refine lv_aload_n hx hb dL_law_263 rfl (lv_at hl 1 rfl) ?_
  refine call_Vi (wr := wMd G b gc gd gw gf gp ga gb gh gg gx ge n k z t kn pl lf pn) [] [] ⟨hx, hb, hml, hown, hts⟩ hK hX hA hP hD hS (c_tried l G _ a fm fh fw fb fc fd fr fp n k z t kn pl lf pn  (by omega) (by omega) (by omega) (by omega) (by omega) (by omega) (by omega)) (cwV 0 hts gL_law_X2_tried rfl rfl rfl (by decide +kernel) ⟨Nat.le_of_ble_eq_true rfl, Nat.le_of_ble_eq_true rfl⟩) 2 0 rfl rfl rfl [0, 1, 2, 3, 4, 5, 6, 7, 8, 9, 10] [11, 12, 13, 14, 15, 16, 17, 18, 19, 20, 21, 22] rfl rfl (by decide) (by decide) (by decide) rfl hl.1 (Nat.le_of_ble_eq_true rfl) dL_law_264 ⟨Nat.le_of_ble_eq_true rfl, Nat.le_of_ble_eq_true rfl⟩ (fun r1 u H locs hw1 hP hD hS => ?_)
  have hP : va_P G.1 vwCl (wC G a fm fh fw fb fc fd fr fp n k z t kn pl lf pn ++ wMd G b gc gd gw gf gp ga gb gh gg gx ge n k z t kn pl lf pn) H := hP.sub [12, 13, 14, 15, 16, 17, 18, 19, 20, 21, 22, 0, 1, 2, 3, 4, 5, 6, 7, 8, 9, 10, 11] rfl
  have hD : va_D A (wC G a fm fh fw fb fc fd fr fp n k z t kn pl lf pn ++ wMd G b gc gd gw gf gp ga gb gh gg gx ge n k z t kn pl lf pn) := hD.sub [12, 13, 14, 15, 16, 17, 18, 19, 20, 21, 22, 0, 1, 2, 3, 4, 5, 6, 7, 8, 9, 10, 11] (by decide) rfl
  refine lv_aload_n hx hb dL_law_267 rfl (lv_at hl 2 rfl) ?_
  refine call_Vi (wr := wC G a fm fh fw fb fc fd fr fp n k z t kn pl lf pn) [] [.int r1] ⟨hx, hb, hml, hown, hts⟩ hK hX hA hP hD hS (m_tried l G _ b gc gd gw gf gp ga gb gh gg gx ge n k z t kn pl lf pn  (by omega) (by omega) (by omega) (by omega) (by omega) (by omega) (by omega) hga hgb) (cwV 0 hts gL_law_X3_tried rfl rfl rfl (by decide +kernel) ⟨Nat.le_of_ble_eq_true rfl, Nat.le_of_ble_eq_true rfl⟩) 3 11 rfl rfl rfl [11, 12, 13, 14, 15, 16, 17, 18, 19, 20, 21, 22] [0, 1, 2, 3, 4, 5, 6, 7, 8, 9, 10] rfl rfl (by decide) (by decide) (by decide) rfl hl.1 (Nat.le_of_ble_eq_true rfl) dL_law_268 ⟨Nat.le_of_ble_eq_true rfl, Nat.le_of_ble_eq_true rfl⟩ (fun r2 u H locs hw2 hP hD hS => ?_)
  have hP : va_P G.1 vwCl (wC G a fm fh fw fb fc fd fr fp n k z t kn pl lf pn ++ wMd G b gc gd gw gf gp ga gb gh gg gx ge n k z t kn pl lf pn) H := hP
  have hD : va_D A (wC G a fm fh fw fb fc fd fr fp n k z t kn pl lf pn ++ wMd G b gc gd gw gf gp ga gb gh gg gx ge n k z t kn pl lf pn) := hD
  have er := hw1.trans hw2.symm
  refine lv_icmp_eq (tgt := 677) hx hb dL_law_271 (by decide) (fun _ => ?_) (fun c9 => absurd er c9)
  exact kk _ _ _ _ _ _ _ _ _ _ _ _ _ _ _ _ _ _ _ _ _ _ _ _ _ _ _ _ _ hrel hga hgb hP hD hS
set_option maxHeartbeats 4000000 in
set_option maxRecDepth 100000 in
theorem law_commit {p : Program} {l : Launch} {e : Env} {s : State} {m : MethodId} {args : Array Value} {below : List Frame} {meth : Method} {c : Code} {A : Nat → Prop} {Q : State → Prop} {G : gG} {q9 L : Nat} {xs : Nat → Int32} {ls : Array Slot} {a b : Nat → Nat} (hx : p.tables.exec = Jvm.exec) (hb : c.code = cL_law) (hml : c.maxLocals = 4) (hown : s.vm.findClass RL = some m.cls) (hts : ∀ w ∈ wsL_law, w.before args s = true) (hA : ∀ q : Nat, s.heap.size ≤ q → A q) (hK : va_K G.1 vwCl (gT G) s) (hX : st_X G A s s.heap) (hX9 : va_X q9 L xs s s.heap) (hbl : q9 < s.heap.size) (hbA : ¬ A q9) (hL : L ≤ 2049) {i : Nat} (hi : 1 ≤ i) (hiL : i + 4 ≤ L) (hl : lv_has ls 4 [(0, .ref q9), (1, .ref (a 0)), (2, .ref (b 0)), (3, .int (nI i))]) {fm fh fw fb fc fd fr fp : Nat → Int32} {gc gd gw gf gp ga gb gh gg gx ge : Nat → Int32} {n k z t : Nat} {kn : Int32} {pl lf pn : Nat} {H : Heap} {locs : List Loc} (hrel : Rel fb fc fd fr fp n k z t kn pl lf pn gc gd gw gf gp) (hga : ∀ j, j < 64 → ga j = st_K j) (hgb : ∀ j, j < 8 → gb j = st_S j) (hP : va_P G.1 vwCl (wC G a fm fh fw fb fc fd fr fp n k z t kn pl lf pn ++ wMd G b gc gd gw gf gp ga gb gh gg gx ge n k z t kn pl lf pn) H) (hD : va_D A (wC G a fm fh fw fb fc fd fr fp n k z t kn pl lf pn ++ wMd G b gc gd gw gf gp ga gb gh gg gx ge n k z t kn pl lf pn)) (hS : va_S A s.heap H locs)
    (kk : ∀ (fm fh fw fb fc fd fr fp : Nat → Int32) (gc gd gw gf gp ga gb gh gg gx ge : Nat → Int32) (n k z t : Nat) (kn : Int32) (pl lf pn : Nat) (H : Heap) (locs : List Loc), Rel fb fc fd fr fp n k z t kn pl lf pn gc gd gw gf gp → (∀ j, j < 64 → ga j = st_K j) → (∀ j, j < 8 → gb j = st_S j) → va_P G.1 vwCl (wC G a fm fh fw fb fc fd fr fp n k z t kn pl lf pn ++ wMd G b gc gd gw gf gp ga gb gh gg gx ge n k z t kn pl lf pn) H → va_D A (wC G a fm fh fw fb fc fd fr fp n k z t kn pl lf pn ++ wMd G b gc gd gw gf gp ga gb gh gg gx ge n k z t kn pl lf pn) → va_S A s.heap H locs → W p l e room_1 s m args below meth c H locs 23 8649 Q (F0 m 677 ls [])) : W p l e room_1 s m args below meth c H locs 23 8649 Q (F0 m 276 ls []) := by
  obtain ⟨hB1, hB2, hB3, hB4, hB5, hB6, hB7⟩ := hrel.1
  refine lv_aload_n hx hb dL_law_276 rfl (lv_at hl 1 rfl) ?_
  refine call_Vi (wr := wMd G b gc gd gw gf gp ga gb gh gg gx ge n k z t kn pl lf pn) [] [] ⟨hx, hb, hml, hown, hts⟩ hK hX hA hP hD hS (c_commit l G _ a fm fh fw fb fc fd fr fp n k z t kn pl lf pn  (by omega) (by omega) (by omega) (by omega) (by omega) (by omega) (by omega)) (cwV 0 hts gL_law_X2_commit rfl rfl rfl (by decide +kernel) ⟨Nat.le_of_ble_eq_true rfl, Nat.le_of_ble_eq_true rfl⟩) 2 0 rfl rfl rfl [0, 1, 2, 3, 4, 5, 6, 7, 8, 9, 10] [11, 12, 13, 14, 15, 16, 17, 18, 19, 20, 21, 22] rfl rfl (by decide) (by decide) (by decide) rfl hl.1 (Nat.le_of_ble_eq_true rfl) dL_law_277 ⟨Nat.le_of_ble_eq_true rfl, Nat.le_of_ble_eq_true rfl⟩ (fun r1 u H locs hw1 hP hD hS => ?_)
  obtain ⟨fb1, fc1, fd1, fr1, n1, k1, t1, kn1⟩ := u
  try dsimp only at hw1
  have hP : va_P G.1 vwCl (wC G a fm fh fw fb1 fc1 fd1 fr1 fp n1 k1 z t1 kn1 pl lf pn ++ wMd G b gc gd gw gf gp ga gb gh gg gx ge n k z t kn pl lf pn) H := hP.sub [12, 13, 14, 15, 16, 17, 18, 19, 20, 21, 22, 0, 1, 2, 3, 4, 5, 6, 7, 8, 9, 10, 11] rfl
  have hD : va_D A (wC G a fm fh fw fb1 fc1 fd1 fr1 fp n1 k1 z t1 kn1 pl lf pn ++ wMd G b gc gd gw gf gp ga gb gh gg gx ge n k z t kn pl lf pn) := hD.sub [12, 13, 14, 15, 16, 17, 18, 19, 20, 21, 22, 0, 1, 2, 3, 4, 5, 6, 7, 8, 9, 10, 11] (by decide) rfl
  refine lv_aload_n hx hb dL_law_280 rfl (lv_at hl 2 rfl) ?_
  refine call_Vi (wr := wC G a fm fh fw fb1 fc1 fd1 fr1 fp n1 k1 z t1 kn1 pl lf pn) [] [.int r1] ⟨hx, hb, hml, hown, hts⟩ hK hX hA hP hD hS (m_commit l G _ b gc gd gw gf gp ga gb gh gg gx ge n k z t kn pl lf pn  (by omega) (by omega) (by omega) (by omega) (by omega) (by omega) (by omega) hga hgb) (cwV 0 hts gL_law_X3_commit rfl rfl rfl (by decide +kernel) ⟨Nat.le_of_ble_eq_true rfl, Nat.le_of_ble_eq_true rfl⟩) 3 11 rfl rfl rfl [11, 12, 13, 14, 15, 16, 17, 18, 19, 20, 21, 22] [0, 1, 2, 3, 4, 5, 6, 7, 8, 9, 10] rfl rfl (by decide) (by decide) (by decide) rfl hl.1 (Nat.le_of_ble_eq_true rfl) dL_law_281 ⟨Nat.le_of_ble_eq_true rfl, Nat.le_of_ble_eq_true rfl⟩ (fun r2 u H locs hw2 hP hD hS => ?_)
  obtain ⟨gc2, gd2, gf2, gh2, gg2, gx2, ge2, n2, k2, t2, kn2⟩ := u
  try dsimp only at hw2
  have hP : va_P G.1 vwCl (wC G a fm fh fw fb1 fc1 fd1 fr1 fp n1 k1 z t1 kn1 pl lf pn ++ wMd G b gc2 gd2 gw gf2 gp ga gb gh2 gg2 gx2 ge2 n2 k2 z t2 kn2 pl lf pn) H := hP
  have hD : va_D A (wC G a fm fh fw fb1 fc1 fd1 fr1 fp n1 k1 z t1 kn1 pl lf pn ++ wMd G b gc2 gd2 gw gf2 gp ga gb gh2 gg2 gx2 ge2 n2 k2 z t2 kn2 pl lf pn) := hD
  obtain ⟨er, ⟨rfl, rfl, rfl, rfl⟩, hrel⟩ := rel_commit hrel hw1 hw2
  refine lv_icmp_eq (tgt := 677) hx hb dL_law_284 (by decide) (fun _ => ?_) (fun c9 => absurd er c9)
  exact kk _ _ _ _ _ _ _ _ _ _ _ _ _ _ _ _ _ _ _ _ _ _ _ _ _ _ _ _ _ hrel hga hgb hP hD hS
set_option maxHeartbeats 4000000 in
set_option maxRecDepth 100000 in
theorem law_count {p : Program} {l : Launch} {e : Env} {s : State} {m : MethodId} {args : Array Value} {below : List Frame} {meth : Method} {c : Code} {A : Nat → Prop} {Q : State → Prop} {G : gG} {q9 L : Nat} {xs : Nat → Int32} {ls : Array Slot} {a b : Nat → Nat} (hx : p.tables.exec = Jvm.exec) (hb : c.code = cL_law) (hml : c.maxLocals = 4) (hown : s.vm.findClass RL = some m.cls) (hts : ∀ w ∈ wsL_law, w.before args s = true) (hA : ∀ q : Nat, s.heap.size ≤ q → A q) (hK : va_K G.1 vwCl (gT G) s) (hX : st_X G A s s.heap) (hX9 : va_X q9 L xs s s.heap) (hbl : q9 < s.heap.size) (hbA : ¬ A q9) (hL : L ≤ 2049) {i : Nat} (hi : 1 ≤ i) (hiL : i + 4 ≤ L) (hl : lv_has ls 4 [(0, .ref q9), (1, .ref (a 0)), (2, .ref (b 0)), (3, .int (nI i))]) {fm fh fw fb fc fd fr fp : Nat → Int32} {gc gd gw gf gp ga gb gh gg gx ge : Nat → Int32} {n k z t : Nat} {kn : Int32} {pl lf pn : Nat} {H : Heap} {locs : List Loc} (hrel : Rel fb fc fd fr fp n k z t kn pl lf pn gc gd gw gf gp) (hga : ∀ j, j < 64 → ga j = st_K j) (hgb : ∀ j, j < 8 → gb j = st_S j) (hP : va_P G.1 vwCl (wC G a fm fh fw fb fc fd fr fp n k z t kn pl lf pn ++ wMd G b gc gd gw gf gp ga gb gh gg gx ge n k z t kn pl lf pn) H) (hD : va_D A (wC G a fm fh fw fb fc fd fr fp n k z t kn pl lf pn ++ wMd G b gc gd gw gf gp ga gb gh gg gx ge n k z t kn pl lf pn)) (hS : va_S A s.heap H locs)
    (kk : ∀ (fm fh fw fb fc fd fr fp : Nat → Int32) (gc gd gw gf gp ga gb gh gg gx ge : Nat → Int32) (n k z t : Nat) (kn : Int32) (pl lf pn : Nat) (H : Heap) (locs : List Loc), Rel fb fc fd fr fp n k z t kn pl lf pn gc gd gw gf gp → (∀ j, j < 64 → ga j = st_K j) → (∀ j, j < 8 → gb j = st_S j) → va_P G.1 vwCl (wC G a fm fh fw fb fc fd fr fp n k z t kn pl lf pn ++ wMd G b gc gd gw gf gp ga gb gh gg gx ge n k z t kn pl lf pn) H → va_D A (wC G a fm fh fw fb fc fd fr fp n k z t kn pl lf pn ++ wMd G b gc gd gw gf gp ga gb gh gg gx ge n k z t kn pl lf pn) → va_S A s.heap H locs → W p l e room_1 s m args below meth c H locs 23 8649 Q (F0 m 677 ls [])) : W p l e room_1 s m args below meth c H locs 23 8649 Q (F0 m 289 ls []) := by
  obtain ⟨hB1, hB2, hB3, hB4, hB5, hB6, hB7⟩ := hrel.1
  refine lv_aload_n hx hb dL_law_289 rfl (lv_at hl 1 rfl) ?_
  refine call_Vi (wr := wMd G b gc gd gw gf gp ga gb gh gg gx ge n k z t kn pl lf pn) [] [] ⟨hx, hb, hml, hown, hts⟩ hK hX hA hP hD hS (c_count l G _ a fm fh fw fb fc fd fr fp n k z t kn pl lf pn  (by omega) (by omega) (by omega) (by omega) (by omega) (by omega) (by omega)) (cwV 0 hts gL_law_X2_count rfl rfl rfl (by decide +kernel) ⟨Nat.le_of_ble_eq_true rfl, Nat.le_of_ble_eq_true rfl⟩) 2 0 rfl rfl rfl [0, 1, 2, 3, 4, 5, 6, 7, 8, 9, 10] [11, 12, 13, 14, 15, 16, 17, 18, 19, 20, 21, 22] rfl rfl (by decide) (by decide) (by decide) rfl hl.1 (Nat.le_of_ble_eq_true rfl) dL_law_290 ⟨Nat.le_of_ble_eq_true rfl, Nat.le_of_ble_eq_true rfl⟩ (fun r1 u H locs hw1 hP hD hS => ?_)
  have hP : va_P G.1 vwCl (wC G a fm fh fw fb fc fd fr fp n k z t kn pl lf pn ++ wMd G b gc gd gw gf gp ga gb gh gg gx ge n k z t kn pl lf pn) H := hP.sub [12, 13, 14, 15, 16, 17, 18, 19, 20, 21, 22, 0, 1, 2, 3, 4, 5, 6, 7, 8, 9, 10, 11] rfl
  have hD : va_D A (wC G a fm fh fw fb fc fd fr fp n k z t kn pl lf pn ++ wMd G b gc gd gw gf gp ga gb gh gg gx ge n k z t kn pl lf pn) := hD.sub [12, 13, 14, 15, 16, 17, 18, 19, 20, 21, 22, 0, 1, 2, 3, 4, 5, 6, 7, 8, 9, 10, 11] (by decide) rfl
  refine lv_aload_n hx hb dL_law_293 rfl (lv_at hl 2 rfl) ?_
  refine call_Vi (wr := wC G a fm fh fw fb fc fd fr fp n k z t kn pl lf pn) [] [.int r1] ⟨hx, hb, hml, hown, hts⟩ hK hX hA hP hD hS (m_count l G _ b gc gd gw gf gp ga gb gh gg gx ge n k z t kn pl lf pn  (by omega) (by omega) (by omega) (by omega) (by omega) (by omega) (by omega) hga hgb) (cwV 0 hts gL_law_X3_count rfl rfl rfl (by decide +kernel) ⟨Nat.le_of_ble_eq_true rfl, Nat.le_of_ble_eq_true rfl⟩) 3 11 rfl rfl rfl [11, 12, 13, 14, 15, 16, 17, 18, 19, 20, 21, 22] [0, 1, 2, 3, 4, 5, 6, 7, 8, 9, 10] rfl rfl (by decide) (by decide) (by decide) rfl hl.1 (Nat.le_of_ble_eq_true rfl) dL_law_294 ⟨Nat.le_of_ble_eq_true rfl, Nat.le_of_ble_eq_true rfl⟩ (fun r2 u H locs hw2 hP hD hS => ?_)
  have hP : va_P G.1 vwCl (wC G a fm fh fw fb fc fd fr fp n k z t kn pl lf pn ++ wMd G b gc gd gw gf gp ga gb gh gg gx ge n k z t kn pl lf pn) H := hP
  have hD : va_D A (wC G a fm fh fw fb fc fd fr fp n k z t kn pl lf pn ++ wMd G b gc gd gw gf gp ga gb gh gg gx ge n k z t kn pl lf pn) := hD
  have er := hw1.trans hw2.symm
  refine lv_icmp_eq (tgt := 677) hx hb dL_law_297 (by decide) (fun _ => ?_) (fun c9 => absurd er c9)
  exact kk _ _ _ _ _ _ _ _ _ _ _ _ _ _ _ _ _ _ _ _ _ _ _ _ _ _ _ _ _ hrel hga hgb hP hD hS
set_option maxHeartbeats 4000000 in
set_option maxRecDepth 100000 in
theorem law_head {p : Program} {l : Launch} {e : Env} {s : State} {m : MethodId} {args : Array Value} {below : List Frame} {meth : Method} {c : Code} {A : Nat → Prop} {Q : State → Prop} {G : gG} {q9 L : Nat} {xs : Nat → Int32} {ls : Array Slot} {a b : Nat → Nat} (hx : p.tables.exec = Jvm.exec) (hb : c.code = cL_law) (hml : c.maxLocals = 4) (hown : s.vm.findClass RL = some m.cls) (hts : ∀ w ∈ wsL_law, w.before args s = true) (hA : ∀ q : Nat, s.heap.size ≤ q → A q) (hK : va_K G.1 vwCl (gT G) s) (hX : st_X G A s s.heap) (hX9 : va_X q9 L xs s s.heap) (hbl : q9 < s.heap.size) (hbA : ¬ A q9) (hL : L ≤ 2049) {i : Nat} (hi : 1 ≤ i) (hiL : i + 4 ≤ L) (hl : lv_has ls 4 [(0, .ref q9), (1, .ref (a 0)), (2, .ref (b 0)), (3, .int (nI i))]) {fm fh fw fb fc fd fr fp : Nat → Int32} {gc gd gw gf gp ga gb gh gg gx ge : Nat → Int32} {n k z t : Nat} {kn : Int32} {pl lf pn : Nat} {H : Heap} {locs : List Loc} (hrel : Rel fb fc fd fr fp n k z t kn pl lf pn gc gd gw gf gp) (hga : ∀ j, j < 64 → ga j = st_K j) (hgb : ∀ j, j < 8 → gb j = st_S j) (hP : va_P G.1 vwCl (wC G a fm fh fw fb fc fd fr fp n k z t kn pl lf pn ++ wMd G b gc gd gw gf gp ga gb gh gg gx ge n k z t kn pl lf pn) H) (hD : va_D A (wC G a fm fh fw fb fc fd fr fp n k z t kn pl lf pn ++ wMd G b gc gd gw gf gp ga gb gh gg gx ge n k z t kn pl lf pn)) (hS : va_S A s.heap H locs)
    (kk : ∀ (fm fh fw fb fc fd fr fp : Nat → Int32) (gc gd gw gf gp ga gb gh gg gx ge : Nat → Int32) (n k z t : Nat) (kn : Int32) (pl lf pn : Nat) (H : Heap) (locs : List Loc), Rel fb fc fd fr fp n k z t kn pl lf pn gc gd gw gf gp → (∀ j, j < 64 → ga j = st_K j) → (∀ j, j < 8 → gb j = st_S j) → va_P G.1 vwCl (wC G a fm fh fw fb fc fd fr fp n k z t kn pl lf pn ++ wMd G b gc gd gw gf gp ga gb gh gg gx ge n k z t kn pl lf pn) H → va_D A (wC G a fm fh fw fb fc fd fr fp n k z t kn pl lf pn ++ wMd G b gc gd gw gf gp ga gb gh gg gx ge n k z t kn pl lf pn) → va_S A s.heap H locs → W p l e room_1 s m args below meth c H locs 23 8649 Q (F0 m 677 ls [])) : W p l e room_1 s m args below meth c H locs 23 8649 Q (F0 m 302 ls []) := by
  obtain ⟨hB1, hB2, hB3, hB4, hB5, hB6, hB7⟩ := hrel.1
  refine lv_aload_n hx hb dL_law_302 rfl (lv_at hl 1 rfl) ?_
  refine lv_aload_n hx hb dL_law_303 rfl (lv_at hl 0 rfl) ?_
  refine lv_iload_n hx hb dL_law_304 rfl (lv_at hl 3 rfl) ?_
  refine lv_iconst (v := nI 1) hx hb dL_law_305 (by decide) ?_
  refine ad_N hx hb i 1 dL_law_306 ?_
  refine sl_N hx hb hX9 hbl hbA hS (i + 1) (by omega) hL dL_law_307 ?_
  refine call_Vi (wr := wMd G b gc gd gw gf gp ga gb gh gg gx ge n k z t kn pl lf pn) [.int (xs (i + 1))] [] ⟨hx, hb, hml, hown, hts⟩ hK hX hA hP hD hS (c_head l G _ a fm fh fw fb fc fd fr fp n k z t kn pl lf pn (xs (i + 1)) (by omega) (by omega) (by omega) (by omega) (by omega) (by omega) (by omega)) (cwV 1 hts gL_law_X2_head rfl rfl rfl (by decide +kernel) ⟨Nat.le_of_ble_eq_true rfl, Nat.le_of_ble_eq_true rfl⟩) 2 0 rfl rfl rfl [0, 1, 2, 3, 4, 5, 6, 7, 8, 9, 10] [11, 12, 13, 14, 15, 16, 17, 18, 19, 20, 21, 22] rfl rfl (by decide) (by decide) (by decide) rfl hl.1 (Nat.le_of_ble_eq_true rfl) dL_law_308 ⟨Nat.le_of_ble_eq_true rfl, Nat.le_of_ble_eq_true rfl⟩ (fun r1 u H locs hw1 hP hD hS => ?_)
  have hP : va_P G.1 vwCl (wC G a fm fh fw fb fc fd fr fp n k z t kn pl lf pn ++ wMd G b gc gd gw gf gp ga gb gh gg gx ge n k z t kn pl lf pn) H := hP.sub [12, 13, 14, 15, 16, 17, 18, 19, 20, 21, 22, 0, 1, 2, 3, 4, 5, 6, 7, 8, 9, 10, 11] rfl
  have hD : va_D A (wC G a fm fh fw fb fc fd fr fp n k z t kn pl lf pn ++ wMd G b gc gd gw gf gp ga gb gh gg gx ge n k z t kn pl lf pn) := hD.sub [12, 13, 14, 15, 16, 17, 18, 19, 20, 21, 22, 0, 1, 2, 3, 4, 5, 6, 7, 8, 9, 10, 11] (by decide) rfl
  refine lv_aload_n hx hb dL_law_311 rfl (lv_at hl 2 rfl) ?_
  refine lv_aload_n hx hb dL_law_312 rfl (lv_at hl 0 rfl) ?_
  refine lv_iload_n hx hb dL_law_313 rfl (lv_at hl 3 rfl) ?_
  refine lv_iconst (v := nI 1) hx hb dL_law_314 (by decide) ?_
  refine ad_N hx hb i 1 dL_law_315 ?_
  refine sl_N hx hb hX9 hbl hbA hS (i + 1) (by omega) hL dL_law_316 ?_
  refine call_Vi (wr := wC G a fm fh fw fb fc fd fr fp n k z t kn pl lf pn) [.int (xs (i + 1))] [.int r1] ⟨hx, hb, hml, hown, hts⟩ hK hX hA hP hD hS (m_head l G _ b gc gd gw gf gp ga gb gh gg gx ge n k z t kn pl lf pn (xs (i + 1)) (by omega) (by omega) (by omega) (by omega) (by omega) (by omega) (by omega) hga hgb) (cwV 1 hts gL_law_X3_head rfl rfl rfl (by decide +kernel) ⟨Nat.le_of_ble_eq_true rfl, Nat.le_of_ble_eq_true rfl⟩) 3 11 rfl rfl rfl [11, 12, 13, 14, 15, 16, 17, 18, 19, 20, 21, 22] [0, 1, 2, 3, 4, 5, 6, 7, 8, 9, 10] rfl rfl (by decide) (by decide) (by decide) rfl hl.1 (Nat.le_of_ble_eq_true rfl) dL_law_317 ⟨Nat.le_of_ble_eq_true rfl, Nat.le_of_ble_eq_true rfl⟩ (fun r2 u H locs hw2 hP hD hS => ?_)
  have hP : va_P G.1 vwCl (wC G a fm fh fw fb fc fd fr fp n k z t kn pl lf pn ++ wMd G b gc gd gw gf gp ga gb gh gg gx ge n k z t kn pl lf pn) H := hP
  have hD : va_D A (wC G a fm fh fw fb fc fd fr fp n k z t kn pl lf pn ++ wMd G b gc gd gw gf gp ga gb gh gg gx ge n k z t kn pl lf pn) := hD
  have er := hw1.trans ((rel_head hrel _).trans hw2.symm)
  refine lv_icmp_eq (tgt := 677) hx hb dL_law_320 (by decide) (fun _ => ?_) (fun c9 => absurd er c9)
  exact kk _ _ _ _ _ _ _ _ _ _ _ _ _ _ _ _ _ _ _ _ _ _ _ _ _ _ _ _ _ hrel hga hgb hP hD hS
set_option maxHeartbeats 4000000 in
set_option maxRecDepth 100000 in
theorem law_cell {p : Program} {l : Launch} {e : Env} {s : State} {m : MethodId} {args : Array Value} {below : List Frame} {meth : Method} {c : Code} {A : Nat → Prop} {Q : State → Prop} {G : gG} {q9 L : Nat} {xs : Nat → Int32} {ls : Array Slot} {a b : Nat → Nat} (hx : p.tables.exec = Jvm.exec) (hb : c.code = cL_law) (hml : c.maxLocals = 4) (hown : s.vm.findClass RL = some m.cls) (hts : ∀ w ∈ wsL_law, w.before args s = true) (hA : ∀ q : Nat, s.heap.size ≤ q → A q) (hK : va_K G.1 vwCl (gT G) s) (hX : st_X G A s s.heap) (hX9 : va_X q9 L xs s s.heap) (hbl : q9 < s.heap.size) (hbA : ¬ A q9) (hL : L ≤ 2049) {i : Nat} (hi : 1 ≤ i) (hiL : i + 4 ≤ L) (hl : lv_has ls 4 [(0, .ref q9), (1, .ref (a 0)), (2, .ref (b 0)), (3, .int (nI i))]) {fm fh fw fb fc fd fr fp : Nat → Int32} {gc gd gw gf gp ga gb gh gg gx ge : Nat → Int32} {n k z t : Nat} {kn : Int32} {pl lf pn : Nat} {H : Heap} {locs : List Loc} (hrel : Rel fb fc fd fr fp n k z t kn pl lf pn gc gd gw gf gp) (hga : ∀ j, j < 64 → ga j = st_K j) (hgb : ∀ j, j < 8 → gb j = st_S j) (hP : va_P G.1 vwCl (wC G a fm fh fw fb fc fd fr fp n k z t kn pl lf pn ++ wMd G b gc gd gw gf gp ga gb gh gg gx ge n k z t kn pl lf pn) H) (hD : va_D A (wC G a fm fh fw fb fc fd fr fp n k z t kn pl lf pn ++ wMd G b gc gd gw gf gp ga gb gh gg gx ge n k z t kn pl lf pn)) (hS : va_S A s.heap H locs)
    (kk : ∀ (fm fh fw fb fc fd fr fp : Nat → Int32) (gc gd gw gf gp ga gb gh gg gx ge : Nat → Int32) (n k z t : Nat) (kn : Int32) (pl lf pn : Nat) (H : Heap) (locs : List Loc), Rel fb fc fd fr fp n k z t kn pl lf pn gc gd gw gf gp → (∀ j, j < 64 → ga j = st_K j) → (∀ j, j < 8 → gb j = st_S j) → va_P G.1 vwCl (wC G a fm fh fw fb fc fd fr fp n k z t kn pl lf pn ++ wMd G b gc gd gw gf gp ga gb gh gg gx ge n k z t kn pl lf pn) H → va_D A (wC G a fm fh fw fb fc fd fr fp n k z t kn pl lf pn ++ wMd G b gc gd gw gf gp ga gb gh gg gx ge n k z t kn pl lf pn) → va_S A s.heap H locs → W p l e room_1 s m args below meth c H locs 23 8649 Q (F0 m 677 ls [])) : W p l e room_1 s m args below meth c H locs 23 8649 Q (F0 m 325 ls []) := by
  obtain ⟨hB1, hB2, hB3, hB4, hB5, hB6, hB7⟩ := hrel.1
  refine lv_aload_n hx hb dL_law_325 rfl (lv_at hl 1 rfl) ?_
  refine lv_aload_n hx hb dL_law_326 rfl (lv_at hl 0 rfl) ?_
  refine lv_iload_n hx hb dL_law_327 rfl (lv_at hl 3 rfl) ?_
  refine lv_iconst (v := nI 1) hx hb dL_law_328 (by decide) ?_
  refine ad_N hx hb i 1 dL_law_329 ?_
  refine sl_N hx hb hX9 hbl hbA hS (i + 1) (by omega) hL dL_law_330 ?_
  refine lv_aload_n hx hb dL_law_331 rfl (lv_at hl 0 rfl) ?_
  refine lv_iload_n hx hb dL_law_332 rfl (lv_at hl 3 rfl) ?_
  refine lv_iconst (v := nI 2) hx hb dL_law_333 (by decide) ?_
  refine ad_N hx hb i 2 dL_law_334 ?_
  refine sl_N hx hb hX9 hbl hbA hS (i + 2) (by omega) hL dL_law_335 ?_
  refine call_Vi (wr := wMd G b gc gd gw gf gp ga gb gh gg gx ge n k z t kn pl lf pn) [.int (xs (i + 1)), .int (xs (i + 2))] [] ⟨hx, hb, hml, hown, hts⟩ hK hX hA hP hD hS (c_cell l G _ a fm fh fw fb fc fd fr fp n k z t kn pl lf pn (xs (i + 1)) (xs (i + 2)) (by omega) (by omega) (by omega) (by omega) (by omega) (by omega) (by omega)) (cwV 2 hts gL_law_X2_cell rfl rfl rfl (by decide +kernel) ⟨Nat.le_of_ble_eq_true rfl, Nat.le_of_ble_eq_true rfl⟩) 2 0 rfl rfl rfl [0, 1, 2, 3, 4, 5, 6, 7, 8, 9, 10] [11, 12, 13, 14, 15, 16, 17, 18, 19, 20, 21, 22] rfl rfl (by decide) (by decide) (by decide) rfl hl.1 (Nat.le_of_ble_eq_true rfl) dL_law_336 ⟨Nat.le_of_ble_eq_true rfl, Nat.le_of_ble_eq_true rfl⟩ (fun r1 u H locs hw1 hP hD hS => ?_)
  have hP : va_P G.1 vwCl (wC G a fm fh fw fb fc fd fr fp n k z t kn pl lf pn ++ wMd G b gc gd gw gf gp ga gb gh gg gx ge n k z t kn pl lf pn) H := hP.sub [12, 13, 14, 15, 16, 17, 18, 19, 20, 21, 22, 0, 1, 2, 3, 4, 5, 6, 7, 8, 9, 10, 11] rfl
  have hD : va_D A (wC G a fm fh fw fb fc fd fr fp n k z t kn pl lf pn ++ wMd G b gc gd gw gf gp ga gb gh gg gx ge n k z t kn pl lf pn) := hD.sub [12, 13, 14, 15, 16, 17, 18, 19, 20, 21, 22, 0, 1, 2, 3, 4, 5, 6, 7, 8, 9, 10, 11] (by decide) rfl
  refine lv_aload_n hx hb dL_law_339 rfl (lv_at hl 2 rfl) ?_
  refine lv_aload_n hx hb dL_law_340 rfl (lv_at hl 0 rfl) ?_
  refine lv_iload_n hx hb dL_law_341 rfl (lv_at hl 3 rfl) ?_
  refine lv_iconst (v := nI 1) hx hb dL_law_342 (by decide) ?_
  refine ad_N hx hb i 1 dL_law_343 ?_
  refine sl_N hx hb hX9 hbl hbA hS (i + 1) (by omega) hL dL_law_344 ?_
  refine lv_aload_n hx hb dL_law_345 rfl (lv_at hl 0 rfl) ?_
  refine lv_iload_n hx hb dL_law_346 rfl (lv_at hl 3 rfl) ?_
  refine lv_iconst (v := nI 2) hx hb dL_law_347 (by decide) ?_
  refine ad_N hx hb i 2 dL_law_348 ?_
  refine sl_N hx hb hX9 hbl hbA hS (i + 2) (by omega) hL dL_law_349 ?_
  refine call_Vi (wr := wC G a fm fh fw fb fc fd fr fp n k z t kn pl lf pn) [.int (xs (i + 1)), .int (xs (i + 2))] [.int r1] ⟨hx, hb, hml, hown, hts⟩ hK hX hA hP hD hS (m_cell l G _ b gc gd gw gf gp ga gb gh gg gx ge n k z t kn pl lf pn (xs (i + 1)) (xs (i + 2)) (by omega) (by omega) (by omega) (by omega) (by omega) (by omega) (by omega) hga hgb) (cwV 2 hts gL_law_X3_cell rfl rfl rfl (by decide +kernel) ⟨Nat.le_of_ble_eq_true rfl, Nat.le_of_ble_eq_true rfl⟩) 3 11 rfl rfl rfl [11, 12, 13, 14, 15, 16, 17, 18, 19, 20, 21, 22] [0, 1, 2, 3, 4, 5, 6, 7, 8, 9, 10] rfl rfl (by decide) (by decide) (by decide) rfl hl.1 (Nat.le_of_ble_eq_true rfl) dL_law_350 ⟨Nat.le_of_ble_eq_true rfl, Nat.le_of_ble_eq_true rfl⟩ (fun r2 u H locs hw2 hP hD hS => ?_)
  have hP : va_P G.1 vwCl (wC G a fm fh fw fb fc fd fr fp n k z t kn pl lf pn ++ wMd G b gc gd gw gf gp ga gb gh gg gx ge n k z t kn pl lf pn) H := hP
  have hD : va_D A (wC G a fm fh fw fb fc fd fr fp n k z t kn pl lf pn ++ wMd G b gc gd gw gf gp ga gb gh gg gx ge n k z t kn pl lf pn) := hD
  have er := hw1.trans ((rel_cell hrel _ _).trans hw2.symm)
  refine lv_icmp_eq (tgt := 677) hx hb dL_law_353 (by decide) (fun _ => ?_) (fun c9 => absurd er c9)
  exact kk _ _ _ _ _ _ _ _ _ _ _ _ _ _ _ _ _ _ _ _ _ _ _ _ _ _ _ _ _ hrel hga hgb hP hD hS
set_option maxHeartbeats 4000000 in
set_option maxRecDepth 100000 in
theorem law_spoil {p : Program} {l : Launch} {e : Env} {s : State} {m : MethodId} {args : Array Value} {below : List Frame} {meth : Method} {c : Code} {A : Nat → Prop} {Q : State → Prop} {G : gG} {q9 L : Nat} {xs : Nat → Int32} {ls : Array Slot} {a b : Nat → Nat} (hx : p.tables.exec = Jvm.exec) (hb : c.code = cL_law) (hml : c.maxLocals = 4) (hown : s.vm.findClass RL = some m.cls) (hts : ∀ w ∈ wsL_law, w.before args s = true) (hA : ∀ q : Nat, s.heap.size ≤ q → A q) (hK : va_K G.1 vwCl (gT G) s) (hX : st_X G A s s.heap) (hX9 : va_X q9 L xs s s.heap) (hbl : q9 < s.heap.size) (hbA : ¬ A q9) (hL : L ≤ 2049) {i : Nat} (hi : 1 ≤ i) (hiL : i + 4 ≤ L) (hl : lv_has ls 4 [(0, .ref q9), (1, .ref (a 0)), (2, .ref (b 0)), (3, .int (nI i))]) {fm fh fw fb fc fd fr fp : Nat → Int32} {gc gd gw gf gp ga gb gh gg gx ge : Nat → Int32} {n k z t : Nat} {kn : Int32} {pl lf pn : Nat} {H : Heap} {locs : List Loc} (hrel : Rel fb fc fd fr fp n k z t kn pl lf pn gc gd gw gf gp) (hga : ∀ j, j < 64 → ga j = st_K j) (hgb : ∀ j, j < 8 → gb j = st_S j) (hP : va_P G.1 vwCl (wC G a fm fh fw fb fc fd fr fp n k z t kn pl lf pn ++ wMd G b gc gd gw gf gp ga gb gh gg gx ge n k z t kn pl lf pn) H) (hD : va_D A (wC G a fm fh fw fb fc fd fr fp n k z t kn pl lf pn ++ wMd G b gc gd gw gf gp ga gb gh gg gx ge n k z t kn pl lf pn)) (hS : va_S A s.heap H locs)
    (kk : ∀ (fm fh fw fb fc fd fr fp : Nat → Int32) (gc gd gw gf gp ga gb gh gg gx ge : Nat → Int32) (n k z t : Nat) (kn : Int32) (pl lf pn : Nat) (H : Heap) (locs : List Loc), Rel fb fc fd fr fp n k z t kn pl lf pn gc gd gw gf gp → (∀ j, j < 64 → ga j = st_K j) → (∀ j, j < 8 → gb j = st_S j) → va_P G.1 vwCl (wC G a fm fh fw fb fc fd fr fp n k z t kn pl lf pn ++ wMd G b gc gd gw gf gp ga gb gh gg gx ge n k z t kn pl lf pn) H → va_D A (wC G a fm fh fw fb fc fd fr fp n k z t kn pl lf pn ++ wMd G b gc gd gw gf gp ga gb gh gg gx ge n k z t kn pl lf pn) → va_S A s.heap H locs → W p l e room_1 s m args below meth c H locs 23 8649 Q (F0 m 677 ls [])) : W p l e room_1 s m args below meth c H locs 23 8649 Q (F0 m 358 ls []) := by
  obtain ⟨hB1, hB2, hB3, hB4, hB5, hB6, hB7⟩ := hrel.1
  refine lv_aload_n hx hb dL_law_358 rfl (lv_at hl 1 rfl) ?_
  refine lv_aload_n hx hb dL_law_359 rfl (lv_at hl 0 rfl) ?_
  refine lv_iload_n hx hb dL_law_360 rfl (lv_at hl 3 rfl) ?_
  refine lv_iconst (v := nI 1) hx hb dL_law_361 (by decide) ?_
  refine ad_N hx hb i 1 dL_law_362 ?_
  refine sl_N hx hb hX9 hbl hbA hS (i + 1) (by omega) hL dL_law_363 ?_
  refine lv_aload_n hx hb dL_law_364 rfl (lv_at hl 0 rfl) ?_
  refine lv_iload_n hx hb dL_law_365 rfl (lv_at hl 3 rfl) ?_
  refine lv_iconst (v := nI 2) hx hb dL_law_366 (by decide) ?_
  refine ad_N hx hb i 2 dL_law_367 ?_
  refine sl_N hx hb hX9 hbl hbA hS (i + 2) (by omega) hL dL_law_368 ?_
  refine lv_aload_n hx hb dL_law_369 rfl (lv_at hl 0 rfl) ?_
  refine lv_iload_n hx hb dL_law_370 rfl (lv_at hl 3 rfl) ?_
  refine lv_iconst (v := nI 3) hx hb dL_law_371 (by decide) ?_
  refine ad_N hx hb i 3 dL_law_372 ?_
  refine sl_N hx hb hX9 hbl hbA hS (i + 3) (by omega) hL dL_law_373 ?_
  refine call_Vi (wr := wMd G b gc gd gw gf gp ga gb gh gg gx ge n k z t kn pl lf pn) [.int (xs (i + 1)), .int (xs (i + 2)), .int (xs (i + 3))] [] ⟨hx, hb, hml, hown, hts⟩ hK hX hA hP hD hS (c_spoil l G _ a fm fh fw fb fc fd fr fp n k z t kn pl lf pn (xs (i + 1)) (xs (i + 2)) (xs (i + 3)) (by omega) (by omega) (by omega) (by omega) (by omega) (by omega) (by omega)) (cwV 3 hts gL_law_X2_spoil rfl rfl rfl (by decide +kernel) ⟨Nat.le_of_ble_eq_true rfl, Nat.le_of_ble_eq_true rfl⟩) 2 0 rfl rfl rfl [0, 1, 2, 3, 4, 5, 6, 7, 8, 9, 10] [11, 12, 13, 14, 15, 16, 17, 18, 19, 20, 21, 22] rfl rfl (by decide) (by decide) (by decide) rfl hl.1 (Nat.le_of_ble_eq_true rfl) dL_law_374 ⟨Nat.le_of_ble_eq_true rfl, Nat.le_of_ble_eq_true rfl⟩ (fun r1 u H locs hw1 hP hD hS => ?_)
  obtain ⟨fc1, t1, kn1⟩ := u
  try dsimp only at hw1
  have hP : va_P G.1 vwCl (wC G a fm fh fw fb fc1 fd fr fp n k z t1 kn1 pl lf pn ++ wMd G b gc gd gw gf gp ga gb gh gg gx ge n k z t kn pl lf pn) H := hP.sub [12, 13, 14, 15, 16, 17, 18, 19, 20, 21, 22, 0, 1, 2, 3, 4, 5, 6, 7, 8, 9, 10, 11] rfl
  have hD : va_D A (wC G a fm fh fw fb fc1 fd fr fp n k z t1 kn1 pl lf pn ++ wMd G b gc gd gw gf gp ga gb gh gg gx ge n k z t kn pl lf pn) := hD.sub [12, 13, 14, 15, 16, 17, 18, 19, 20, 21, 22, 0, 1, 2, 3, 4, 5, 6, 7, 8, 9, 10, 11] (by decide) rfl
  refine lv_aload_n hx hb dL_law_377 rfl (lv_at hl 2 rfl) ?_
  refine lv_aload_n hx hb dL_law_378 rfl (lv_at hl 0 rfl) ?_
  refine lv_iload_n hx hb dL_law_379 rfl (lv_at hl 3 rfl) ?_
  refine lv_iconst (v := nI 1) hx hb dL_law_380 (by decide) ?_
  refine ad_N hx hb i 1 dL_law_381 ?_
  refine sl_N hx hb hX9 hbl hbA hS (i + 1) (by omega) hL dL_law_382 ?_
  refine lv_aload_n hx hb dL_law_383 rfl (lv_at hl 0 rfl) ?_
  refine lv_iload_n hx hb dL_law_384 rfl (lv_at hl 3 rfl) ?_
  refine lv_iconst (v := nI 2) hx hb dL_law_385 (by decide) ?_
  refine ad_N hx hb i 2 dL_law_386 ?_
  refine sl_N hx hb hX9 hbl hbA hS (i + 2) (by omega) hL dL_law_387 ?_
  refine lv_aload_n hx hb dL_law_388 rfl (lv_at hl 0 rfl) ?_
  refine lv_iload_n hx hb dL_law_389 rfl (lv_at hl 3 rfl) ?_
  refine lv_iconst (v := nI 3) hx hb dL_law_390 (by decide) ?_
  refine ad_N hx hb i 3 dL_law_391 ?_
  refine sl_N hx hb hX9 hbl hbA hS (i + 3) (by omega) hL dL_law_392 ?_
  refine call_Vi (wr := wC G a fm fh fw fb fc1 fd fr fp n k z t1 kn1 pl lf pn) [.int (xs (i + 1)), .int (xs (i + 2)), .int (xs (i + 3))] [.int r1] ⟨hx, hb, hml, hown, hts⟩ hK hX hA hP hD hS (m_spoil l G _ b gc gd gw gf gp ga gb gh gg gx ge n k z t kn pl lf pn (xs (i + 1)) (xs (i + 2)) (xs (i + 3)) (by omega) (by omega) (by omega) (by omega) (by omega) (by omega) (by omega) hga hgb) (cwV 3 hts gL_law_X3_spoil rfl rfl rfl (by decide +kernel) ⟨Nat.le_of_ble_eq_true rfl, Nat.le_of_ble_eq_true rfl⟩) 3 11 rfl rfl rfl [11, 12, 13, 14, 15, 16, 17, 18, 19, 20, 21, 22] [0, 1, 2, 3, 4, 5, 6, 7, 8, 9, 10] rfl rfl (by decide) (by decide) (by decide) rfl hl.1 (Nat.le_of_ble_eq_true rfl) dL_law_393 ⟨Nat.le_of_ble_eq_true rfl, Nat.le_of_ble_eq_true rfl⟩ (fun r2 u H locs hw2 hP hD hS => ?_)
  obtain ⟨gc2, t2, kn2⟩ := u
  try dsimp only at hw2
  have hP : va_P G.1 vwCl (wC G a fm fh fw fb fc1 fd fr fp n k z t1 kn1 pl lf pn ++ wMd G b gc2 gd gw gf gp ga gb gh gg gx ge n k z t2 kn2 pl lf pn) H := hP
  have hD : va_D A (wC G a fm fh fw fb fc1 fd fr fp n k z t1 kn1 pl lf pn ++ wMd G b gc2 gd gw gf gp ga gb gh gg gx ge n k z t2 kn2 pl lf pn) := hD
  obtain ⟨er, ⟨rfl, rfl⟩, hrel⟩ := rel_spoil hrel hw1 hw2
  refine lv_icmp_eq (tgt := 677) hx hb dL_law_396 (by decide) (fun _ => ?_) (fun c9 => absurd er c9)
  exact kk _ _ _ _ _ _ _ _ _ _ _ _ _ _ _ _ _ _ _ _ _ _ _ _ _ _ _ _ _ hrel hga hgb hP hD hS
set_option maxHeartbeats 4000000 in
set_option maxRecDepth 100000 in
theorem law_drop {p : Program} {l : Launch} {e : Env} {s : State} {m : MethodId} {args : Array Value} {below : List Frame} {meth : Method} {c : Code} {A : Nat → Prop} {Q : State → Prop} {G : gG} {q9 L : Nat} {xs : Nat → Int32} {ls : Array Slot} {a b : Nat → Nat} (hx : p.tables.exec = Jvm.exec) (hb : c.code = cL_law) (hml : c.maxLocals = 4) (hown : s.vm.findClass RL = some m.cls) (hts : ∀ w ∈ wsL_law, w.before args s = true) (hA : ∀ q : Nat, s.heap.size ≤ q → A q) (hK : va_K G.1 vwCl (gT G) s) (hX : st_X G A s s.heap) (hX9 : va_X q9 L xs s s.heap) (hbl : q9 < s.heap.size) (hbA : ¬ A q9) (hL : L ≤ 2049) {i : Nat} (hi : 1 ≤ i) (hiL : i + 4 ≤ L) (hl : lv_has ls 4 [(0, .ref q9), (1, .ref (a 0)), (2, .ref (b 0)), (3, .int (nI i))]) {fm fh fw fb fc fd fr fp : Nat → Int32} {gc gd gw gf gp ga gb gh gg gx ge : Nat → Int32} {n k z t : Nat} {kn : Int32} {pl lf pn : Nat} {H : Heap} {locs : List Loc} (hrel : Rel fb fc fd fr fp n k z t kn pl lf pn gc gd gw gf gp) (hga : ∀ j, j < 64 → ga j = st_K j) (hgb : ∀ j, j < 8 → gb j = st_S j) (hP : va_P G.1 vwCl (wC G a fm fh fw fb fc fd fr fp n k z t kn pl lf pn ++ wMd G b gc gd gw gf gp ga gb gh gg gx ge n k z t kn pl lf pn) H) (hD : va_D A (wC G a fm fh fw fb fc fd fr fp n k z t kn pl lf pn ++ wMd G b gc gd gw gf gp ga gb gh gg gx ge n k z t kn pl lf pn)) (hS : va_S A s.heap H locs)
    (kk : ∀ (fm fh fw fb fc fd fr fp : Nat → Int32) (gc gd gw gf gp ga gb gh gg gx ge : Nat → Int32) (n k z t : Nat) (kn : Int32) (pl lf pn : Nat) (H : Heap) (locs : List Loc), Rel fb fc fd fr fp n k z t kn pl lf pn gc gd gw gf gp → (∀ j, j < 64 → ga j = st_K j) → (∀ j, j < 8 → gb j = st_S j) → va_P G.1 vwCl (wC G a fm fh fw fb fc fd fr fp n k z t kn pl lf pn ++ wMd G b gc gd gw gf gp ga gb gh gg gx ge n k z t kn pl lf pn) H → va_D A (wC G a fm fh fw fb fc fd fr fp n k z t kn pl lf pn ++ wMd G b gc gd gw gf gp ga gb gh gg gx ge n k z t kn pl lf pn) → va_S A s.heap H locs → W p l e room_1 s m args below meth c H locs 23 8649 Q (F0 m 677 ls [])) : W p l e room_1 s m args below meth c H locs 23 8649 Q (F0 m 401 ls []) := by
  obtain ⟨hB1, hB2, hB3, hB4, hB5, hB6, hB7⟩ := hrel.1
  refine lv_aload_n hx hb dL_law_401 rfl (lv_at hl 1 rfl) ?_
  refine call_Vi (wr := wMd G b gc gd gw gf gp ga gb gh gg gx ge n k z t kn pl lf pn) [] [] ⟨hx, hb, hml, hown, hts⟩ hK hX hA hP hD hS (c_drop l G _ a fm fh fw fb fc fd fr fp n k z t kn pl lf pn  (by omega) (by omega) (by omega) (by omega) (by omega) (by omega) (by omega)) (cwV 0 hts gL_law_X2_drop rfl rfl rfl (by decide +kernel) ⟨Nat.le_of_ble_eq_true rfl, Nat.le_of_ble_eq_true rfl⟩) 2 0 rfl rfl rfl [0, 1, 2, 3, 4, 5, 6, 7, 8, 9, 10] [11, 12, 13, 14, 15, 16, 17, 18, 19, 20, 21, 22] rfl rfl (by decide) (by decide) (by decide) rfl hl.1 (Nat.le_of_ble_eq_true rfl) dL_law_402 ⟨Nat.le_of_ble_eq_true rfl, Nat.le_of_ble_eq_true rfl⟩ (fun r1 u H locs hw1 hP hD hS => ?_)
  obtain ⟨fb1, fd1, n1, t1, kn1, pl1⟩ := u
  try dsimp only at hw1
  have hP : va_P G.1 vwCl (wC G a fm fh fw fb1 fc fd1 fr fp n1 k z t1 kn1 pl1 lf pn ++ wMd G b gc gd gw gf gp ga gb gh gg gx ge n k z t kn pl lf pn) H := hP.sub [12, 13, 14, 15, 16, 17, 18, 19, 20, 21, 22, 0, 1, 2, 3, 4, 5, 6, 7, 8, 9, 10, 11] rfl
  have hD : va_D A (wC G a fm fh fw fb1 fc fd1 fr fp n1 k z t1 kn1 pl1 lf pn ++ wMd G b gc gd gw gf gp ga gb gh gg gx ge n k z t kn pl lf pn) := hD.sub [12, 13, 14, 15, 16, 17, 18, 19, 20, 21, 22, 0, 1, 2, 3, 4, 5, 6, 7, 8, 9, 10, 11] (by decide) rfl
  refine lv_aload_n hx hb dL_law_405 rfl (lv_at hl 2 rfl) ?_
  refine call_Vi (wr := wC G a fm fh fw fb1 fc fd1 fr fp n1 k z t1 kn1 pl1 lf pn) [] [.int r1] ⟨hx, hb, hml, hown, hts⟩ hK hX hA hP hD hS (m_drop l G _ b gc gd gw gf gp ga gb gh gg gx ge n k z t kn pl lf pn  (by omega) (by omega) (by omega) (by omega) (by omega) (by omega) (by omega) hga hgb) (cwV 0 hts gL_law_X3_drop rfl rfl rfl (by decide +kernel) ⟨Nat.le_of_ble_eq_true rfl, Nat.le_of_ble_eq_true rfl⟩) 3 11 rfl rfl rfl [11, 12, 13, 14, 15, 16, 17, 18, 19, 20, 21, 22] [0, 1, 2, 3, 4, 5, 6, 7, 8, 9, 10] rfl rfl (by decide) (by decide) (by decide) rfl hl.1 (Nat.le_of_ble_eq_true rfl) dL_law_406 ⟨Nat.le_of_ble_eq_true rfl, Nat.le_of_ble_eq_true rfl⟩ (fun r2 u H locs hw2 hP hD hS => ?_)
  obtain ⟨gd2, gf2, n2, t2, kn2, pl2⟩ := u
  try dsimp only at hw2
  have hP : va_P G.1 vwCl (wC G a fm fh fw fb1 fc fd1 fr fp n1 k z t1 kn1 pl1 lf pn ++ wMd G b gc gd2 gw gf2 gp ga gb gh gg gx ge n2 k z t2 kn2 pl2 lf pn) H := hP
  have hD : va_D A (wC G a fm fh fw fb1 fc fd1 fr fp n1 k z t1 kn1 pl1 lf pn ++ wMd G b gc gd2 gw gf2 gp ga gb gh gg gx ge n2 k z t2 kn2 pl2 lf pn) := hD
  obtain ⟨er, ⟨rfl, rfl, rfl, rfl⟩, hrel⟩ := rel_drop hrel hw1 hw2
  refine lv_icmp_eq (tgt := 677) hx hb dL_law_409 (by decide) (fun _ => ?_) (fun c9 => absurd er c9)
  exact kk _ _ _ _ _ _ _ _ _ _ _ _ _ _ _ _ _ _ _ _ _ _ _ _ _ _ _ _ _ hrel hga hgb hP hD hS
