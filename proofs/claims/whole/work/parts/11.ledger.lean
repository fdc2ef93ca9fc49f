/-- the class's object and all that it holds -/
abbrev wC (G : gG) (a : Nat → Nat) (fm fh fw fb fc fd fr fp : Nat → Int32) (n k z t : Nat) (kn : Int32) (pl lf pn : Nat) : va_W :=
  [(a 0, .inr (2, [.ref (a 1), .ref (a 5), .ref (a 7), .ref (a 8), .ref (a 9), .ref (a 10), .int (nI n), .int (nI k), .int (nI z), .int (nI t), .int kn, .int (nI pl), .int (nI lf), .int (nI pn)])),
   (a 1, .inr (1, [.ref (a 2), .ref (a 3), .ref (a 4)])), (a 2, .inl (G.2.2.1, 8, .inl fm)), (a 3, .inl (G.2.2.1, 8, .inl fh)), (a 4, .inl (G.2.2.1, 64, .inl fw)),
   (a 5, .inr (0, [.ref (a 6)])), (a 6, .inl (G.2.2.1, 32, .inl fb)), (a 7, .inl (G.2.2.1, 2040, .inl fc)), (a 8, .inl (G.2.2.1, 8, .inl fd)), (a 9, .inl (G.2.2.1, 34, .inl fr)), (a 10, .inl (G.2.2.1, 1560, .inl fp))]
def p_ok (e : Int32) (n : Nat) : Bool := decide (0 ≤ e.toInt ∧ e.toInt < (n : Int))
theorem ok_T {e : Int32} {n : Nat} (h1 : 0 ≤ e.toInt) (h2 : e.toInt < (n : Int)) : p_ok e n = true := decide_eq_true ⟨h1, h2⟩
theorem ok_F {e : Int32} {n : Nat} (h : e.toInt < 0 ∨ (n : Int) ≤ e.toInt) : p_ok e n = false := decide_eq_false (fun q => by omega)
theorem ok_of {e : Int32} {n : Nat} (hn : n ≤ 65536) (h : p_ok e n = true) : ∃ j : Nat, j < n ∧ e = nI j := by
  have q := of_decide_eq_true h
  obtain ⟨j, hj, rfl⟩ := of_nn q.1
  rw [tI_N hj] at q
  exact ⟨j, by omega, rfl⟩
theorem ok_N {j n : Nat} (hj : j < 2147483648) : p_ok (nI j) n = decide (j < n) := by
  have e := tI_N hj
  by_cases h : j < n
  · rw [decide_eq_true h]; exact ok_T (by rw [e]; omega) (by rw [e]; omega)
  · rw [decide_eq_false h]; exact ok_F (by rw [e]; omega)
theorem ok_m1 (n : Nat) : p_ok (-1) n = false := ok_F (Or.inl (by decide))
/-- the number less its lowest bit -/
def p_sk (e : Nat) : Nat := e &&& (e - 1)
theorem sk_eq : ∀ e, e < 64 → nI e - (nI e &&& (-nI e)) = nI (p_sk e) := by decide +kernel
theorem sk_lt : ∀ e, e < 64 → 0 < e → p_sk e < e := by decide +kernel
def p_skI (e : Nat) : Int32 := if e = 0 then (-1) else nI (p_sk e)
def p_by (x e : Nat) : Bool := decide (0 < x ∧ e ≤ p_sk x)
def p_nx (x e : Nat) : Nat := if x ≤ e then e else if e ≤ p_sk x then p_sk x else x - 1
theorem nx_lt {x e : Nat} (hx : x < 64) (h : e < x) : p_nx x e < x ∧ e ≤ p_nx x e := by
  have := sk_lt x hx (by omega)
  simp only [p_nx]
  rw [if_neg (by omega)]
  by_cases q : e ≤ p_sk x
  · rw [if_pos q]; omega
  · rw [if_neg q]; omega
def p_way (x e : Nat) : Nat → Nat
  | 0 => x
  | k + 1 => p_nx (p_way x e k) e
def p_end (x e K : Nat) : Prop := (∀ j, j < K → e < p_way x e j) ∧ p_way x e K = e
theorem way_le {x e : Nat} (hx : x < 64) : ∀ k, (∀ j, j < k → e < p_way x e j) → p_way x e k + k ≤ x
  | 0, _ => Nat.le_refl _
  | k + 1, h => by
    have ih := way_le hx k (fun j hj => h j (by omega))
    have := nx_lt (x := p_way x e k) (e := e) (by omega) (h k (by omega))
    show p_nx (p_way x e k) e + (k + 1) ≤ x
    omega
theorem way_ge {x e : Nat} (hx : x < 64) (he : e ≤ x) : ∀ k, (∀ j, j < k → e < p_way x e j) → e ≤ p_way x e k
  | 0, _ => he
  | k + 1, h => by
    have ih := way_le hx k (fun j hj => h j (by omega))
    exact (nx_lt (x := p_way x e k) (e := e) (by omega) (h k (by omega))).2
theorem end_1 {x e K J : Nat} (h : p_end x e K) (g : p_end x e J) : K = J := by
  rcases Nat.lt_trichotomy K J with q | q | q
  · have := g.1 K q; rw [h.2] at this; omega
  · exact q
  · have := h.1 J q; rw [g.2] at this; omega
set_option maxHeartbeats 4000000 in
set_option maxRecDepth 100000 in
theorem c_forgetNonces (l : Launch) (G : gG) (sz : Nat) (a : Nat → Nat) (fm fh fw fb fc fd fr fp : Nat → Int32) (n k z t : Nat) (kn : Int32) (pl lf pn : Nat)  (hn : n ≤ 60) (hk : k ≤ 8) (hz : z ≤ 20) (ht : t ≤ 100000) (hpl : pl ≤ 60) (hlf : lf ≤ 6) (hpn : pn ≤ 1560)  : MetV l yX2_forgetNonces wsX2_forgetNonces ({ frames := 0, cells := 0, slots := 0, locals := 0 } : Room) [.ref (a 0)] G (wC G a fm fh fw fb fc fd fr fp n k z t kn pl lf pn) sz (fun _ : Unit => wC G a fm fh fw fb fc fd fr fp n k z 0 (-1) pl lf pn) (fun _ => True) := by
  refine ent_v _ cX2_forgetNonces 1 RX2 (by decide) rfl rfl (Nat.le_of_ble_eq_true rfl) ?_
  intro p e s m args below meth c A Q ls hx hb hml hts hown hA hK hX ret hl hP hD hS
  have hl : lv_has ls 1 [(0, .ref (a 0))] := hl
  have lk55 := hts (.fieldLink RX2 55 "MinedLedger" "triedCount" "I") (by decide +kernel)
  have lk58 := hts (.fieldLink RX2 58 "MinedLedger" "keptNonce" "I") (by decide +kernel)
  have hiX2 : ∀ w ∈ wsX20, w ∈ wsX2_forgetNonces := by decide +kernel
  refine lv_aload_n hx hb dX2_forgetNonces_0 rfl (lv_at hl 0 rfl) ?_
  refine lv_iconst (v := nI 0) hx hb dX2_forgetNonces_1 (by decide) ?_
  refine va_put (D := G.1) (ci := 2) (v := .int (nI 0)) (ty := .int) (C := RX2) (T := TX2) (N := 14) hx hb hts hiX2 tyX2 tyX2_ok nmX2 hown hK hP hD hS 0 rfl rfl 9 (by decide) lk55 (fun _ h9 => h9) rfl (by decide +kernel) rfl rfl (Nat.le_of_ble_eq_true rfl) dX2_forgetNonces_2 (fun H locs hP hD hS => ?_)
  have hP : va_P G.1 vwCl (wC G a fm fh fw fb fc fd fr fp n k z 0 kn pl lf pn) H := hP
  have hD : va_D A (wC G a fm fh fw fb fc fd fr fp n k z 0 kn pl lf pn) := hD
  refine lv_aload_n hx hb dX2_forgetNonces_5 rfl (lv_at hl 0 rfl) ?_
  refine lv_iconst (v := (-1)) hx hb dX2_forgetNonces_6 (by decide) ?_
  refine va_put (D := G.1) (ci := 2) (v := .int (-1)) (ty := .int) (C := RX2) (T := TX2) (N := 14) hx hb hts hiX2 tyX2 tyX2_ok nmX2 hown hK hP hD hS 0 rfl rfl 10 (by decide) lk58 (fun _ h9 => h9) rfl (by decide +kernel) rfl rfl (Nat.le_of_ble_eq_true rfl) dX2_forgetNonces_7 (fun H locs hP hD hS => ?_)
  have hP : va_P G.1 vwCl (wC G a fm fh fw fb fc fd fr fp n k z 0 (-1) pl lf pn) H := hP
  have hD : va_D A (wC G a fm fh fw fb fc fd fr fp n k z 0 (-1) pl lf pn) := hD
  exact ret 10 _ _ _ () dX2_forgetNonces_10 (trivial) hP hD hS
set_option maxHeartbeats 4000000 in
set_option maxRecDepth 100000 in
theorem c_clearWordsFrom (l : Launch) (G : gG) (sz : Nat) (a : Nat → Nat) (fm fh fw fb fc fd fr fp : Nat → Int32) (n k z t : Nat) (kn : Int32) (pl lf pn : Nat) (i : Nat) (hn : n ≤ 60) (hk : k ≤ 8) (hz : z ≤ 20) (ht : t ≤ 100000) (hpl : pl ≤ 60) (hlf : lf ≤ 6) (hpn : pn ≤ 1560) (hi : i ≤ 8) : MetV l yX2_clearWordsFrom wsX2_clearWordsFrom ({ frames := 2, cells := 0, slots := 0, locals := 46 } : Room) [.ref (a 0), .int (nI i)] G (wC G a fm fh fw fb fc fd fr fp n k z t kn pl lf pn) sz (fun _ : Unit => wC G a fm fh fw fb fc fd (p_fill fr (16 + i) 24 (nI 0)) fp n i z t kn pl lf pn) (fun _ => True) := by
  refine ent_v _ cX2_clearWordsFrom 2 RX2 (by decide) rfl rfl (Nat.le_of_ble_eq_true rfl) ?_
  intro p e s m args below meth c A Q ls hx hb hml hts hown hA hK hX ret hl hP hD hS
  have hl : lv_has ls 2 [(0, .ref (a 0)), (1, .int (nI i))] := hl
  have lk30 := hts (.fieldLink RX2 30 "MinedLedger" "draft" "[I") (by decide +kernel)
  have lk40 := hts (.fieldLink RX2 40 "MinedLedger" "wordCount" "I") (by decide +kernel)
  have hiX2 : ∀ w ∈ wsX20, w ∈ wsX2_clearWordsFrom := by decide +kernel
  refine lv_aload_n hx hb dX2_clearWordsFrom_0 rfl (lv_at hl 0 rfl) ?_
  refine va_get (D := G.1) (ci := 2) (v := .ref (a 9)) (C := RX2) (T := TX2) (N := 14) hx hb hts hiX2 hown hK hP 0 rfl rfl 4 (by decide) lk30 (fun _ h9 => h9) rfl dX2_clearWordsFrom_1 ?_
  refine lv_bipush (v := nI 16) hx hb dX2_clearWordsFrom_4 (by decide) ?_
  refine lv_iload_n hx hb dX2_clearWordsFrom_6 rfl (lv_at hl 1 rfl) ?_
  refine ad_N hx hb 16 i dX2_clearWordsFrom_7 ?_
  refine lv_bipush (v := nI 24) hx hb dX2_clearWordsFrom_8 (by decide) ?_
  refine lv_iconst (v := nI 0) hx hb dX2_clearWordsFrom_10 (by decide) ?_
  refine call_Sv (wr := ([(a 0, .inr (2, [.ref (a 1), .ref (a 5), .ref (a 7), .ref (a 8), .ref (a 9), .ref (a 10), .int (nI n), .int (nI k), .int (nI z), .int (nI t), .int kn, .int (nI pl), .int (nI lf), .int (nI pn)])), (a 1, .inr (1, [.ref (a 2), .ref (a 3), .ref (a 4)])), (a 2, .inl (G.2.2.1, 8, .inl fm)), (a 3, .inl (G.2.2.1, 8, .inl fh)), (a 4, .inl (G.2.2.1, 64, .inl fw)), (a 5, .inr (0, [.ref (a 6)])), (a 6, .inl (G.2.2.1, 32, .inl fb)), (a 7, .inl (G.2.2.1, 2040, .inl fc)), (a 8, .inl (G.2.2.1, 8, .inl fd)), (a 10, .inl (G.2.2.1, 1560, .inl fp))] : va_W)) [.ref (a 9), .int (nI (16 + i)), .int (nI 24), .int (nI 0)] [] ⟨hx, hb, hml, hown, hts⟩ hK hX hA hP hD hS (c_fill4 l G _ (a 9) 34 (16 + i) 24 fr (nI 0) (by omega) (by omega) (by omega)) (va_cwS 4 hts gX2_clearWordsFrom_J7_fill_fda19 rfl rfl rfl (by decide +kernel) ⟨Nat.le_of_ble_eq_true rfl, Nat.le_of_ble_eq_true rfl⟩) [9] [0, 1, 2, 3, 4, 5, 6, 7, 8, 10] rfl rfl (by decide) (by decide) (by decide) rfl hl.1 (Nat.le_of_ble_eq_true rfl) dX2_clearWordsFrom_11 ⟨Nat.zero_le _, Nat.zero_le _⟩ (fun u H locs hw hP hD hS => ?_)
  have hP : va_P G.1 vwCl (wC G a fm fh fw fb fc fd (p_fill fr (16 + i) 24 (nI 0)) fp n k z t kn pl lf pn) H := hP.sub [0, 1, 2, 3, 4, 5, 6, 7, 8, 10, 9] rfl
  have hD : va_D A (wC G a fm fh fw fb fc fd (p_fill fr (16 + i) 24 (nI 0)) fp n k z t kn pl lf pn) := hD.sub [0, 1, 2, 3, 4, 5, 6, 7, 8, 10, 9] (by decide) rfl
  refine lv_aload_n hx hb dX2_clearWordsFrom_14 rfl (lv_at hl 0 rfl) ?_
  refine lv_iload_n hx hb dX2_clearWordsFrom_15 rfl (lv_at hl 1 rfl) ?_
  refine va_put (D := G.1) (ci := 2) (v := .int (nI i)) (ty := .int) (C := RX2) (T := TX2) (N := 14) hx hb hts hiX2 tyX2 tyX2_ok nmX2 hown hK hP hD hS 0 rfl rfl 7 (by decide) lk40 (fun _ h9 => h9) rfl (by decide +kernel) rfl rfl (Nat.le_of_ble_eq_true rfl) dX2_clearWordsFrom_16 (fun H locs hP hD hS => ?_)
  have hP : va_P G.1 vwCl (wC G a fm fh fw fb fc fd (p_fill fr (16 + i) 24 (nI 0)) fp n i z t kn pl lf pn) H := hP
  have hD : va_D A (wC G a fm fh fw fb fc fd (p_fill fr (16 + i) 24 (nI 0)) fp n i z t kn pl lf pn) := hD
  exact ret 19 _ _ _ () dX2_clearWordsFrom_19 (trivial) hP hD hS
set_option maxHeartbeats 4000000 in
set_option maxRecDepth 100000 in
theorem c_hasEntry (l : Launch) (G : gG) (sz : Nat) (a : Nat → Nat) (fm fh fw fb fc fd fr fp : Nat → Int32) (n k z t : Nat) (kn : Int32) (pl lf pn : Nat) (x : Int32) (hn : n ≤ 60) (hk : k ≤ 8) (hz : z ≤ 20) (ht : t ≤ 100000) (hpl : pl ≤ 60) (hlf : lf ≤ 6) (hpn : pn ≤ 1560)  : MetI l yX2_hasEntry wsX2_hasEntry ({ frames := 0, cells := 0, slots := 0, locals := 0 } : Room) [.ref (a 0), .int x] G (wC G a fm fh fw fb fc fd fr fp n k z t kn pl lf pn) sz (fun _ : Unit => wC G a fm fh fw fb fc fd fr fp n k z t kn pl lf pn) (fun r _ => r = bI (p_ok x n)) := by
  refine ent_z _ cX2_hasEntry 2 RX2 (by decide) rfl rfl (Nat.le_of_ble_eq_true rfl) ?_
  intro p e s m args below meth c A Q ls hx hb hml hts hown hA hK hX ret hl hP hD hS
  have hl : lv_has ls 2 [(0, .ref (a 0)), (1, .int x)] := hl
  have lk36 := hts (.fieldLink RX2 36 "MinedLedger" "entryCount" "I") (by decide +kernel)
  have hiX2 : ∀ w ∈ wsX20, w ∈ wsX2_hasEntry := by decide +kernel
  refine lv_iload_n hx hb dX2_hasEntry_0 rfl (lv_at hl 1 rfl) ?_
  refine ifz_lt hx hb x 16 dX2_hasEntry_1 (by decide) (fun c1 => ?_) (fun c1 => ?_)
  · refine lv_iconst (v := nI 0) hx hb dX2_hasEntry_16 (by decide) ?_
    exact ret 17 _ _ _ (nI 0) () dX2_hasEntry_17 (by first | exact Or.inl rfl | exact Or.inr rfl) (by rw [ok_F (Or.inl c1)]; rfl) hP hD hS
  · refine lv_iload_n hx hb dX2_hasEntry_4 rfl (lv_at hl 1 rfl) ?_
    refine lv_aload_n hx hb dX2_hasEntry_5 rfl (lv_at hl 0 rfl) ?_
    refine va_get (D := G.1) (ci := 2) (v := .int (nI n)) (C := RX2) (T := TX2) (N := 14) hx hb hts hiX2 hown hK hP 0 rfl rfl 6 (by decide) lk36 (fun _ h9 => h9) rfl dX2_hasEntry_6 ?_
    refine cmz_gezn hx hb x n 16 (by omega) dX2_hasEntry_9 (by decide) (fun c9 => ?_) (fun c9 => ?_)
    · refine lv_iconst (v := nI 0) hx hb dX2_hasEntry_16 (by decide) ?_
      exact ret 17 _ _ _ (nI 0) () dX2_hasEntry_17 (by first | exact Or.inl rfl | exact Or.inr rfl) (by rw [ok_F (Or.inr c9)]; rfl) hP hD hS
    · refine lv_iconst (v := nI 1) hx hb dX2_hasEntry_12 (by decide) ?_
      refine lv_goto (tgt := 17) hx hb dX2_hasEntry_13 (by decide) ?_
      exact ret 17 _ _ _ (nI 1) () dX2_hasEntry_17 (by first | exact Or.inl rfl | exact Or.inr rfl) (by rw [ok_T c1 c9]; rfl) hP hD hS
set_option maxHeartbeats 4000000 in
set_option maxRecDepth 100000 in
theorem c_hasCell (l : Launch) (G : gG) (sz : Nat) (a : Nat → Nat) (fm fh fw fb fc fd fr fp : Nat → Int32) (n k z t : Nat) (kn : Int32) (pl lf pn : Nat) (x y : Int32) (hn : n ≤ 60) (hk : k ≤ 8) (hz : z ≤ 20) (ht : t ≤ 100000) (hpl : pl ≤ 60) (hlf : lf ≤ 6) (hpn : pn ≤ 1560)  : MetI l yX2_hasCell wsX2_hasCell ({ frames := 1, cells := 0, slots := 0, locals := 21 } : Room) [.ref (a 0), .int x, .int y] G (wC G a fm fh fw fb fc fd fr fp n k z t kn pl lf pn) sz (fun _ : Unit => wC G a fm fh fw fb fc fd fr fp n k z t kn pl lf pn) (fun r _ => r = bI (p_ok x n && p_ok y 34)) := by
  refine ent_z _ cX2_hasCell 3 RX2 (by decide) rfl rfl (Nat.le_of_ble_eq_true rfl) ?_
  intro p e s m args below meth c A Q ls hx hb hml hts hown hA hK hX ret hl hP hD hS
  have hl : lv_has ls 3 [(0, .ref (a 0)), (1, .int x), (2, .int y)] := hl
  refine lv_aload_n hx hb dX2_hasCell_0 rfl (lv_at hl 0 rfl) ?_
  refine lv_iload_n hx hb dX2_hasCell_1 rfl (lv_at hl 1 rfl) ?_
  refine call_Vi (wr := ([] : va_W)) [.int x] [] ⟨hx, hb, hml, hown, hts⟩ hK hX hA hP hD hS (c_hasEntry l G _ a fm fh fw fb fc fd fr fp n k z t kn pl lf pn x (by omega) (by omega) (by omega) (by omega) (by omega) (by omega) (by omega)) (cwV 1 hts gX2_hasCell_X2_hasEntry rfl rfl rfl (by decide +kernel) ⟨Nat.le_of_ble_eq_true rfl, Nat.le_of_ble_eq_true rfl⟩) 2 0 rfl rfl rfl [0, 1, 2, 3, 4, 5, 6, 7, 8, 9, 10] [] rfl rfl (by decide) (by decide) (by decide) rfl hl.1 (Nat.le_of_ble_eq_true rfl) dX2_hasCell_2 ⟨Nat.zero_le _, Nat.zero_le _⟩ (fun r_1 u H locs hw hP hD hS => ?_)
  obtain rfl := hw
  have hP : va_P G.1 vwCl (wC G a fm fh fw fb fc fd fr fp n k z t kn pl lf pn) H := hP
  have hD : va_D A (wC G a fm fh fw fb fc fd fr fp n k z t kn pl lf pn) := hD
  refine lv_if_eq (tgt := 22) hx hb dX2_hasCell_5 (by decide) (fun c5 => ?_) (fun c5 => ?_)
  · refine lv_iconst (v := nI 0) hx hb dX2_hasCell_22 (by decide) ?_
    exact ret 23 _ _ _ (nI 0) () dX2_hasCell_23 (by first | exact Or.inl rfl | exact Or.inr rfl) (by rw [bI_z c5]; rfl) hP hD hS
  · refine lv_iload_n hx hb dX2_hasCell_8 rfl (lv_at hl 2 rfl) ?_
    refine ifz_lt hx hb y 22 dX2_hasCell_9 (by decide) (fun c9 => ?_) (fun c9 => ?_)
    · refine lv_iconst (v := nI 0) hx hb dX2_hasCell_22 (by decide) ?_
      exact ret 23 _ _ _ (nI 0) () dX2_hasCell_23 (by first | exact Or.inl rfl | exact Or.inr rfl) (by rw [ok_F (n := 34) (Or.inl c9), Bool.and_false]; rfl) hP hD hS
    · refine lv_iload_n hx hb dX2_hasCell_12 rfl (lv_at hl 2 rfl) ?_
      refine lv_bipush (v := nI 34) hx hb dX2_hasCell_13 (by decide) ?_
      refine cmz_gezn hx hb y 34 22 (by omega) dX2_hasCell_15 (by decide) (fun c15 => ?_) (fun c15 => ?_)
      · refine lv_iconst (v := nI 0) hx hb dX2_hasCell_22 (by decide) ?_
        exact ret 23 _ _ _ (nI 0) () dX2_hasCell_23 (by first | exact Or.inl rfl | exact Or.inr rfl) (by rw [ok_F (n := 34) (Or.inr c15), Bool.and_false]; rfl) hP hD hS
      · refine lv_iconst (v := nI 1) hx hb dX2_hasCell_18 (by decide) ?_
        refine lv_goto (tgt := 23) hx hb dX2_hasCell_19 (by decide) ?_
        exact ret 23 _ _ _ (nI 1) () dX2_hasCell_23 (by first | exact Or.inl rfl | exact Or.inr rfl) (by rw [bI_n c5, ok_T c9 (n := 34) c15]; rfl) hP hD hS
set_option maxHeartbeats 4000000 in
set_option maxRecDepth 100000 in
theorem c_skipOf (l : Launch) (G : gG) (sz : Nat) (x : Nat) (hx : x ≤ 60) : MetI l yX2_skipOf wsX2_skipOf ({ frames := 0, cells := 0, slots := 0, locals := 0 } : Room) [.int (nI x)] G (([] : va_W)) sz (fun _ : Unit => []) (fun r _ => r = p_skI x) := by
  refine ent_i _ cX2_skipOf 1 RX2 (by decide) rfl rfl (Nat.le_of_ble_eq_true rfl) ?_
  intro p e s m args below meth c A Q ls hx hb hml hts hown hA hK hX ret hl hP hD hS
  have hl : lv_has ls 1 [(0, .int (nI x))] := hl
  refine lv_iload_n hx hb dX2_skipOf_0 rfl (lv_at hl 0 rfl) ?_
  refine if0_ne hx hb x 8 (by omega) dX2_skipOf_1 (by decide) (fun c1 => ?_) (fun c1 => ?_)
  · refine lv_iload_n hx hb dX2_skipOf_8 rfl (lv_at hl 0 rfl) ?_
    refine lv_iload_n hx hb dX2_skipOf_9 rfl (lv_at hl 0 rfl) ?_
    refine lv_iload_n hx hb dX2_skipOf_10 rfl (lv_at hl 0 rfl) ?_
    refine lv_ineg hx hb dX2_skipOf_11 ?_
    refine lv_iand hx hb dX2_skipOf_12 ?_
    refine lv_isub hx hb dX2_skipOf_13 ?_
    exact ret 14 _ _ _ (nI x - (nI x &&& (-(nI x)))) () dX2_skipOf_14 (by rw [p_skI, if_neg (by omega)]; exact sk_eq x (by omega)) hP hD hS
  · refine lv_iconst (v := (-1)) hx hb dX2_skipOf_4 (by decide) ?_
    refine lv_goto (tgt := 14) hx hb dX2_skipOf_5 (by decide) ?_
    exact ret 14 _ _ _ (-1) () dX2_skipOf_14 (by rw [c1]; rfl) hP hD hS
theorem skI_lt {x e : Nat} (hx : x ≤ 60) (he : e ≤ 60) (h : (p_skI x).toInt < (e : Int)) : p_by x e = false := by
  apply decide_eq_false
  intro q
  rw [p_skI, if_neg (by omega), tI_N (by have := sk_lt x (by omega) q.1; omega)] at h
  omega
theorem skI_ge {x e : Nat} (hx : x ≤ 60) (he : e ≤ 60) (h : (e : Int) ≤ (p_skI x).toInt) : p_by x e = true := by
  apply decide_eq_true
  by_cases q : x = 0
  · rw [p_skI, if_pos q] at h
    have : ((-1 : Int32)).toInt = -1 := by decide
    omega
  · rw [p_skI, if_neg q, tI_N (by have := sk_lt x (by omega) (by omega); omega)] at h
    exact ⟨by omega, by omega⟩
set_option maxHeartbeats 4000000 in
set_option maxRecDepth 100000 in
theorem c_goesBySkip (l : Launch) (G : gG) (sz : Nat) (x y : Nat) (hx0 : x ≤ 60) (hy : y ≤ 60) : MetI l yX2_goesBySkip wsX2_goesBySkip ({ frames := 1, cells := 0, slots := 0, locals := 20 } : Room) [.int (nI x), .int (nI y)] G (([] : va_W)) sz (fun _ : Unit => []) (fun r _ => r = bI (p_by x y)) := by
  refine ent_z _ cX2_goesBySkip 2 RX2 (by decide) rfl rfl (Nat.le_of_ble_eq_true rfl) ?_
  intro p e s m args below meth c A Q ls hx hb hml hts hown hA hK hX ret hl hP hD hS
  have hl : lv_has ls 2 [(0, .int (nI x)), (1, .int (nI y))] := hl
  refine lv_iload_n hx hb dX2_goesBySkip_0 rfl (lv_at hl 0 rfl) ?_
  refine call_Si (wr := ([] : va_W)) [.int (nI x)] [] ⟨hx, hb, hml, hown, hts⟩ hK hX hA hP hD hS (c_skipOf l G _ x (by omega)) (va_cwS 1 hts gX2_goesBySkip_X2_skipOf rfl rfl rfl (by decide +kernel) ⟨Nat.le_of_ble_eq_true rfl, Nat.le_of_ble_eq_true rfl⟩) [] [] rfl rfl (by decide) (by decide) (by decide) rfl hl.1 (Nat.le_of_ble_eq_true rfl) dX2_goesBySkip_1 ⟨Nat.zero_le _, Nat.zero_le _⟩ (fun r_1 u H locs hw hP hD hS => ?_)
  obtain rfl := hw
  have hP : va_P G.1 vwCl (([] : va_W)) H := hP
  have hD : va_D A (([] : va_W)) := hD
  refine lv_iload_n hx hb dX2_goesBySkip_4 rfl (lv_at hl 1 rfl) ?_
  refine cmz_ltzn hx hb (p_skI x) y 12 (by omega) dX2_goesBySkip_5 (by decide) (fun c5 => ?_) (fun c5 => ?_)
  · refine lv_iconst (v := nI 0) hx hb dX2_goesBySkip_12 (by decide) ?_
    exact ret 13 _ _ _ (nI 0) () dX2_goesBySkip_13 (by first | exact Or.inl rfl | exact Or.inr rfl) (by rw [skI_lt hx0 hy c5]; rfl) hP hD hS
  · refine lv_iconst (v := nI 1) hx hb dX2_goesBySkip_8 (by decide) ?_
    refine lv_goto (tgt := 13) hx hb dX2_goesBySkip_9 (by decide) ?_
    exact ret 13 _ _ _ (nI 1) () dX2_goesBySkip_13 (by first | exact Or.inl rfl | exact Or.inr rfl) (by rw [skI_ge hx0 hy c5]; rfl) hP hD hS
set_option maxHeartbeats 4000000 in
set_option maxRecDepth 100000 in
theorem c_nextOnWay (l : Launch) (G : gG) (sz : Nat) (x y : Nat) (hx0 : x ≤ 60) (hy : y ≤ 60) : MetI l yX2_nextOnWay wsX2_nextOnWay ({ frames := 2, cells := 0, slots := 0, locals := 41 } : Room) [.int (nI x), .int (nI y)] G (([] : va_W)) sz (fun _ : Unit => []) (fun r _ => r = nI (p_nx x y)) := by
  refine ent_i _ cX2_nextOnWay 2 RX2 (by decide) rfl rfl (Nat.le_of_ble_eq_true rfl) ?_
  intro p e s m args below meth c A Q ls hx hb hml hts hown hA hK hX ret hl hP hD hS
  have hl : lv_has ls 2 [(0, .int (nI x)), (1, .int (nI y))] := hl
  refine lv_iload_n hx hb dX2_nextOnWay_0 rfl (lv_at hl 0 rfl) ?_
  refine lv_iload_n hx hb dX2_nextOnWay_1 rfl (lv_at hl 1 rfl) ?_
  refine cmp_gt hx hb x y 7 (by omega) (by omega) dX2_nextOnWay_2 (by decide) (fun c2 => ?_) (fun c2 => ?_)
  · refine lv_iload_n hx hb dX2_nextOnWay_7 rfl (lv_at hl 0 rfl) ?_
    refine lv_iload_n hx hb dX2_nextOnWay_8 rfl (lv_at hl 1 rfl) ?_
    refine call_Si (wr := ([] : va_W)) [.int (nI x), .int (nI y)] [] ⟨hx, hb, hml, hown, hts⟩ hK hX hA hP hD hS (c_goesBySkip l G _ x y (by omega) (by omega)) (va_cwS 2 hts gX2_nextOnWay_X2_goesBySkip rfl rfl rfl (by decide +kernel) ⟨Nat.le_of_ble_eq_true rfl, Nat.le_of_ble_eq_true rfl⟩) [] [] rfl rfl (by decide) (by decide) (by decide) rfl hl.1 (Nat.le_of_ble_eq_true rfl) dX2_nextOnWay_9 ⟨Nat.zero_le _, Nat.zero_le _⟩ (fun r_2 u H locs hw hP hD hS => ?_)
    obtain rfl := hw
    have hP : va_P G.1 vwCl (([] : va_W)) H := hP
    have hD : va_D A (([] : va_W)) := hD
    refine lv_if_eq (tgt := 22) hx hb dX2_nextOnWay_12 (by decide) (fun c12 => ?_) (fun c12 => ?_)
    · have q12 := of_decide_eq_false (bI_z c12)
      refine lv_iload_n hx hb dX2_nextOnWay_22 rfl (lv_at hl 0 rfl) ?_
      refine lv_iconst (v := nI 1) hx hb dX2_nextOnWay_23 (by decide) ?_
      refine su_N hx hb x 1 (by omega) dX2_nextOnWay_24 ?_
      exact ret 25 _ _ _ (nI (x - 1)) () dX2_nextOnWay_25 (by rw [p_nx, if_neg (by omega), if_neg (by omega)]) hP hD hS
    · refine lv_iload_n hx hb dX2_nextOnWay_15 rfl (lv_at hl 0 rfl) ?_
      refine call_Si (wr := ([] : va_W)) [.int (nI x)] [] ⟨hx, hb, hml, hown, hts⟩ hK hX hA hP hD hS (c_skipOf l G _ x (by omega)) (va_cwS 1 hts gX2_nextOnWay_X2_skipOf rfl rfl rfl (by decide +kernel) ⟨Nat.le_of_ble_eq_true rfl, Nat.le_of_ble_eq_true rfl⟩) [] [] rfl rfl (by decide) (by decide) (by decide) rfl hl.1 (Nat.le_of_ble_eq_true rfl) dX2_nextOnWay_16 ⟨Nat.zero_le _, Nat.zero_le _⟩ (fun r_4 u H locs hw hP hD hS => ?_)
      obtain rfl := hw
      have hP : va_P G.1 vwCl (([] : va_W)) H := hP
      have hD : va_D A (([] : va_W)) := hD
      have q12 := of_decide_eq_true (bI_n c12)
      refine top_i (nI (p_sk x)) (by rw [p_skI, if_neg (by omega)]) ?_
      refine lv_goto (tgt := 25) hx hb dX2_nextOnWay_19 (by decide) ?_
      exact ret 25 _ _ _ (nI (p_sk x)) () dX2_nextOnWay_25 (by rw [p_nx, if_neg (by omega), if_pos q12.2]) hP hD hS
  · refine lv_iload_n hx hb dX2_nextOnWay_5 rfl (lv_at hl 1 rfl) ?_
    exact ret 6 _ _ _ (nI y) () dX2_nextOnWay_6 (by rw [p_nx, if_pos c2]) hP hD hS
set_option maxHeartbeats 4000000 in
set_option maxRecDepth 100000 in
theorem c_levelsTo (l : Launch) (G : gG) (sz : Nat) (a : Nat → Nat) (fm fh fw fb fc fd fr fp : Nat → Int32) (n k z t : Nat) (kn : Int32) (pl lf pn : Nat) (y : Nat) (hn : n ≤ 60) (hk : k ≤ 8) (hz : z ≤ 20) (ht : t ≤ 100000) (hpl : pl ≤ 60) (hlf : lf ≤ 6) (hpn : pn ≤ 1560) (hy : y < n) : MetI l yX2_levelsTo wsX2_levelsTo ({ frames := 3, cells := 0, slots := 0, locals := 62 } : Room) [.ref (a 0), .int (nI y)] G (wC G a fm fh fw fb fc fd fr fp n k z t kn pl lf pn) sz (fun u : Nat => wC G a fm fh fw fb fc fd fr fp n k z t kn pl lf pn) (fun r u => r = nI (1 + u) ∧ p_end (n - 1) y u) := by
  refine ent_i _ cX2_levelsTo 4 RX2 (by decide) rfl rfl (Nat.le_of_ble_eq_true rfl) ?_
  intro p e s m args below meth c A Q ls hx hb hml hts hown hA hK hX ret hl hP hD hS
  have hl : lv_has ls 4 [(0, .ref (a 0)), (1, .int (nI y))] := hl
  have lk36 := hts (.fieldLink RX2 36 "MinedLedger" "entryCount" "I") (by decide +kernel)
  have hiX2 : ∀ w ∈ wsX20, w ∈ wsX2_levelsTo := by decide +kernel
  refine lv_iconst (v := nI 1) hx hb dX2_levelsTo_0 (by decide) ?_
  refine lv_istore_n (lv' := [(2, .int (nI 1)), (0, .ref (a 0)), (1, .int (nI y))]) hx hb dX2_levelsTo_1 rfl hl (by decide) rfl (fun ls hl => ?_)
  refine lv_aload_n hx hb dX2_levelsTo_2 rfl (lv_at hl 1 rfl) ?_
  refine va_get (D := G.1) (ci := 2) (v := .int (nI n)) (C := RX2) (T := TX2) (N := 14) hx hb hts hiX2 hown hK hP 0 rfl rfl 6 (by decide) lk36 (fun _ h9 => h9) rfl dX2_levelsTo_3 ?_
  refine lv_iconst (v := nI 1) hx hb dX2_levelsTo_6 (by decide) ?_
  refine su_N hx hb n 1 (by omega) dX2_levelsTo_7 ?_
  refine lv_istore_n (lv' := [(3, .int (nI (n - 1))), (2, .int (nI 1)), (0, .ref (a 0)), (1, .int (nI y))]) hx hb dX2_levelsTo_8 rfl hl (by decide) rfl (fun ls hl => ?_)
  suffices hloop1 : ∀ (fu1 : Nat) (j : Nat), (∀ i, i < j → y < p_way (n - 1) y i) → (p_way (n - 1) y j + j ≤ n - 1) → (y ≤ p_way (n - 1) y j) → 60 - j < fu1 → ∀ (H : Heap) (locs : List Loc) (ls : Array Slot), va_P G.1 vwCl (wC G a fm fh fw fb fc fd fr fp n k z t kn pl lf pn) H → va_D A (wC G a fm fh fw fb fc fd fr fp n k z t kn pl lf pn) → va_S A s.heap H locs → lv_has ls 4 [(0, .ref (a 0)), (1, .int (nI y)), (2, .int (nI (1 + j))), (3, .int (nI (p_way (n - 1) y j)))] → W p l e ({ frames := 3, cells := 0, slots := 0, locals := 62 } : Room) s m args below meth c H locs 0 0 Q (F0 m 9 ls []) from hloop1 _ 0 (fun i h => absurd h (Nat.not_lt_zero i)) (Nat.le_refl _) (by show y ≤ n - 1; omega) (Nat.lt_succ_self _) _ _ _ hP hD hS (lv_sub hl [2, 3, 1, 0] rfl)
  clear hP hD hS hl
  intro fu1
  induction fu1 with
  | zero => intro j hj hj2 hj3 hfu; exact absurd hfu (Nat.not_lt_zero _)
  | succ fu1 ih1 =>
    intro j hj hj2 hj3 hfu1 H locs ls hP hD hS hl
    refine lv_iload_n hx hb dX2_levelsTo_9 rfl (lv_at hl 3 rfl) ?_
    refine lv_iload_n hx hb dX2_levelsTo_10 rfl (lv_at hl 1 rfl) ?_
    refine cmp_le hx hb (p_way (n - 1) y j) y 32 (by omega) (by omega) dX2_levelsTo_11 (by decide) (fun c11 => ?_) (fun c11 => ?_)
    · refine lv_iload_n hx hb dX2_levelsTo_32 rfl (lv_at hl 2 rfl) ?_
      exact ret 33 _ _ _ (nI (1 + j)) j dX2_levelsTo_33 (⟨rfl, hj, by omega⟩) hP hD hS
    · refine lv_iload_n hx hb dX2_levelsTo_14 rfl (lv_at hl 2 rfl) ?_
      refine lv_bipush (v := nI 60) hx hb dX2_levelsTo_15 (by decide) ?_
      refine cmp_ge hx hb (1 + j) 60 32 (by omega) (by omega) dX2_levelsTo_17 (by decide) (fun c17 => ?_) (fun c17 => ?_)
      · exfalso; omega
      · refine lv_iload_n hx hb dX2_levelsTo_20 rfl (lv_at hl 3 rfl) ?_
        refine lv_iload_n hx hb dX2_levelsTo_21 rfl (lv_at hl 1 rfl) ?_
        refine call_Si (wr := ([(a 0, .inr (2, [.ref (a 1), .ref (a 5), .ref (a 7), .ref (a 8), .ref (a 9), .ref (a 10), .int (nI n), .int (nI k), .int (nI z), .int (nI t), .int kn, .int (nI pl), .int (nI lf), .int (nI pn)])), (a 1, .inr (1, [.ref (a 2), .ref (a 3), .ref (a 4)])), (a 2, .inl (G.2.2.1, 8, .inl fm)), (a 3, .inl (G.2.2.1, 8, .inl fh)), (a 4, .inl (G.2.2.1, 64, .inl fw)), (a 5, .inr (0, [.ref (a 6)])), (a 6, .inl (G.2.2.1, 32, .inl fb)), (a 7, .inl (G.2.2.1, 2040, .inl fc)), (a 8, .inl (G.2.2.1, 8, .inl fd)), (a 9, .inl (G.2.2.1, 34, .inl fr)), (a 10, .inl (G.2.2.1, 1560, .inl fp))] : va_W)) [.int (nI (p_way (n - 1) y j)), .int (nI y)] [] ⟨hx, hb, hml, hown, hts⟩ hK hX hA hP hD hS (c_nextOnWay l G _ (p_way (n - 1) y j) y (by omega) (by omega)) (va_cwS 2 hts gX2_levelsTo_X2_nextOnWay rfl rfl rfl (by decide +kernel) ⟨Nat.le_of_ble_eq_true rfl, Nat.le_of_ble_eq_true rfl⟩) [] [0, 1, 2, 3, 4, 5, 6, 7, 8, 9, 10] rfl rfl (by decide) (by decide) (by decide) rfl hl.1 (Nat.le_of_ble_eq_true rfl) dX2_levelsTo_22 ⟨Nat.zero_le _, Nat.zero_le _⟩ (fun r_3 u H locs hw hP hD hS => ?_)
        obtain rfl := hw
        have hP : va_P G.1 vwCl (wC G a fm fh fw fb fc fd fr fp n k z t kn pl lf pn) H := hP
        have hD : va_D A (wC G a fm fh fw fb fc fd fr fp n k z t kn pl lf pn) := hD
        refine lv_istore_n (lv' := [(3, .int (nI (p_nx (p_way (n - 1) y j) y))), (0, .ref (a 0)), (1, .int (nI y)), (2, .int (nI (1 + j)))]) hx hb dX2_levelsTo_25 rfl hl (by decide) rfl (fun ls hl => ?_)
        refine lv_iinc (v := nI (1 + j + 1)) (lv' := [(2, .int (nI (1 + j + 1))), (3, .int (nI (p_nx (p_way (n - 1) y j) y))), (0, .ref (a 0)), (1, .int (nI y))]) hx hb dX2_levelsTo_26 hl (k := 3) rfl (inc_N (1 + j) 1) (by decide) rfl (fun ls hl => ?_)
        refine lv_goto (tgt := 9) hx hb dX2_levelsTo_29 (by decide) ?_
        exact ih1 (j + 1) (lt_s hj c11) (by have := nx_lt (x := p_way (n - 1) y j) (e := y) (by omega) c11; show p_nx _ _ + (j + 1) ≤ _; omega) ((nx_lt (x := p_way (n - 1) y j) (e := y) (by omega) c11).2) (by omega) _ _ _ hP hD hS (lv_sub hl [2, 3, 0, 1] rfl)
