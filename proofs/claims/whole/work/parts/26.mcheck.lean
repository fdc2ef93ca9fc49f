def p_cc (gd gp : Nat → Int32) (x y pn k : Nat) : Bool := decide (26 * (k + 1) ≤ pn) && p_chk gd gp x y k
theorem allN_mono {p : Nat → Bool} {j n : Nat} (hj : j ≤ n) (h : allN p j = false) : allN p n = false := by
  cases q : allN p n with
  | false => rfl
  | true =>
    rw [allN_iff.mpr (fun i hi => allN_iff.mp q i (by omega))] at h
    cases h
theorem res_F {gd gp : Nat → Int32} {x y pn i K : Nat} (h : allN (p_cc gd gp x y pn) i = false) (hi : i ≤ K + 1) : nI 0 = bI (decide (pn = 26 * (K + 1)) && allN (p_chk gd gp x y) (K + 1)) := by
  have e : (decide (pn = 26 * (K + 1)) && allN (p_chk gd gp x y) (K + 1)) = false := by
    cases q : (decide (pn = 26 * (K + 1)) && allN (p_chk gd gp x y) (K + 1)) with
    | false => rfl
    | true =>
      rw [Bool.and_eq_true] at q
      have q1 := of_decide_eq_true q.1
      rw [allN_iff.mpr (fun k hk => by rw [p_cc, decide_eq_true (by omega), allN_iff.mp q.2 k (by omega)]; rfl)] at h
      cases h
  rw [e]; rfl
theorem res_N {gd gp : Nat → Int32} {x y pn K : Nat} (h : 26 * (K + 1) ≠ pn) : nI 0 = bI (decide (pn = 26 * (K + 1)) && allN (p_chk gd gp x y) (K + 1)) := by
  rw [decide_eq_false (by omega)]; rfl
theorem res_T {gd gp : Nat → Int32} {x y pn K : Nat} (h : allN (p_cc gd gp x y pn) (K + 1) = true) (hp : 26 * (K + 1) = pn) : nI 1 = bI (decide (pn = 26 * (K + 1)) && allN (p_chk gd gp x y) (K + 1)) := by
  rw [decide_eq_true (by omega), allN_iff.mpr (fun k hk => by have := allN_iff.mp h k hk; rw [p_cc, Bool.and_eq_true] at this; exact this.2)]; rfl
theorem by_T {x y : Nat} (hx : x < 64) (h : y < x) (e : p_nx x y = p_sk x) : p_by x y = true := by
  apply decide_eq_true
  refine ⟨by omega, ?_⟩
  rcases Nat.lt_or_ge (p_sk x) y with q | q
  · rw [p_nx, if_neg (by omega), if_neg (by omega)] at e; omega
  · exact q
theorem by_F {x y : Nat} (h : y < x) (e : p_nx x y ≠ p_sk x) : ¬ p_by x y = true := by
  intro z
  have q := of_decide_eq_true z
  rw [p_nx, if_neg (by omega), if_pos q.2] at e
  exact e rfl
set_option maxHeartbeats 4000000 in
set_option maxRecDepth 100000 in
theorem m_check (l : Launch) (G : gG) (sz : Nat) (b : Nat → Nat) (gc gd gw gf gp ga gb gh gg gx ge : Nat → Int32) (n k z t : Nat) (kn : Int32) (pl lf pn : Nat) (x : Int32) (hn : n ≤ 60) (hk : k ≤ 8) (hz : z ≤ 20) (ht : t ≤ 100000) (hpl : pl ≤ 60) (hlf : lf ≤ 6) (hpn : pn ≤ 1560) (hga : ∀ j, j < 64 → ga j = st_K j) (hgb : ∀ j, j < 8 → gb j = st_S j)  : MetI l yX3_check wsX3_check ({ frames := 3, cells := 0, slots := 0, locals := 73 } : Room) [.ref (b 0), .int x] G (wMd G b gc gd gw gf gp ga gb gh gg gx ge n k z t kn pl lf pn) sz (fun u : (Nat → Int32) × (Nat → Int32) × (Nat → Int32) × (Nat → Int32) => wMd G b gc gd gw gf gp ga gb u.1 u.2.1 u.2.2.1 u.2.2.2 n k z t kn pl lf pn) (fun r u => (fun r _ _ _ _ => q_check gd gp n pn x r) r u.1 u.2.1 u.2.2.1 u.2.2.2) := by
  refine ent_i _ cX3_check 8 RX3 (by decide) rfl rfl (Nat.le_of_ble_eq_true rfl) ?_
  intro p e s m args below meth c A Q ls hx hb hml hts hown hA hK hX ret hl hP hD hS
  have hl : lv_has ls 8 [(0, .ref (b 0)), (1, .int x)] := hl
  have lk13 := hts (.fieldLink RX3 13 "MinedLedgerModel" "head" "[I") (by decide +kernel)
  have lk27 := hts (.fieldLink RX3 27 "MinedLedgerModel" "proof" "[I") (by decide +kernel)
  have lk36 := hts (.fieldLink RX3 36 "MinedLedgerModel" "h" "[I") (by decide +kernel)
  have lk45 := hts (.fieldLink RX3 45 "MinedLedgerModel" "entry" "[I") (by decide +kernel)
  have lk141 := hts (.fieldLink RX3 141 "MinedLedgerModel" "count" "I") (by decide +kernel)
  have lk216 := hts (.fieldLink RX3 216 "MinedLedgerModel" "proofSize" "I") (by decide +kernel)
  have hiX3 : ∀ w ∈ wsX30, w ∈ wsX3_check := by decide +kernel
  refine lv_iload_n hx hb dX3_check_0 rfl (lv_at hl 1 rfl) ?_
  refine ifz_lt hx hb x 12 dX3_check_1 (by decide) (fun c1 => ?_) (fun c1 => ?_)
  · refine lv_bipush (v := (-2)) hx hb dX3_check_12 (by decide) ?_
    exact ret 14 _ _ _ (-2) (gh, gg, gx, ge) dX3_check_14 (Or.inl ⟨ok_F (Or.inl c1), rfl⟩) hP hD hS
  · refine lv_iload_n hx hb dX3_check_4 rfl (lv_at hl 1 rfl) ?_
    refine lv_aload_n hx hb dX3_check_5 rfl (lv_at hl 0 rfl) ?_
    refine va_get (D := G.1) (ci := 3) (v := .int (nI n)) (C := RX3) (T := TX3) (N := 19) hx hb hts hiX3 hown hK hP 0 rfl rfl 1 (by decide) lk141 (fun _ h9 => h9) rfl dX3_check_6 ?_
    refine cmz_ltzn hx hb x n 15 (by omega) dX3_check_9 (by decide) (fun c9 => ?_) (fun c9 => ?_)
    · obtain ⟨y, hy, rfl⟩ := in_N (by omega) c1 c9
      obtain ⟨K, hK0⟩ := end_ex (x := n - 1) (e := y) (by omega) (by omega)
      have hKl := end_le (i := K) hn hK0 (Nat.le_refl _)
      refine lv_aload_n hx hb dX3_check_15 rfl (lv_at hl 0 rfl) ?_
      refine va_get (D := G.1) (ci := 3) (v := .int (nI n)) (C := RX3) (T := TX3) (N := 19) hx hb hts hiX3 hown hK hP 0 rfl rfl 1 (by decide) lk141 (fun _ h9 => h9) rfl dX3_check_16 ?_
      refine lv_iconst (v := nI 1) hx hb dX3_check_19 (by decide) ?_
      refine su_N hx hb n 1 (by omega) dX3_check_20 ?_
      refine lv_istore_n (lv' := [(2, .int (nI (n - 1))), (0, .ref (b 0)), (1, .int (nI y))]) hx hb dX3_check_21 rfl hl (by decide) rfl (fun ls hl => ?_)
      refine lv_iconst (v := nI 0) hx hb dX3_check_22 (by decide) ?_
      refine lv_istore_n (lv' := [(3, .int (nI 0)), (2, .int (nI (n - 1))), (0, .ref (b 0)), (1, .int (nI y))]) hx hb dX3_check_23 rfl hl (by decide) rfl (fun ls hl => ?_)
      refine lv_iconst (v := nI 1) hx hb dX3_check_24 (by decide) ?_
      refine lv_istore (lv' := [(4, .int (nI 1)), (3, .int (nI 0)), (2, .int (nI (n - 1))), (0, .ref (b 0)), (1, .int (nI y))]) hx hb dX3_check_25 hl (by decide) rfl (fun ls hl => ?_)
      refine lv_iconst (v := nI 1) hx hb dX3_check_27 (by decide) ?_
      refine lv_istore (lv' := [(5, .int (nI 1)), (4, .int (nI 1)), (3, .int (nI 0)), (2, .int (nI (n - 1))), (0, .ref (b 0)), (1, .int (nI y))]) hx hb dX3_check_28 hl (by decide) rfl (fun ls hl => ?_)
      refine lv_iconst (v := (-1)) hx hb dX3_check_30 (by decide) ?_
      refine lv_istore (lv' := [(6, .int (-1)), (5, .int (nI 1)), (4, .int (nI 1)), (3, .int (nI 0)), (2, .int (nI (n - 1))), (0, .ref (b 0)), (1, .int (nI y))]) hx hb dX3_check_31 hl (by decide) rfl (fun ls hl => ?_)
      suffices hloop1 : ∀ (fu1 : Nat) (i : Nat) (bm : Bool) (bg : Bool) (px : Nat) (wq : Int32) (hh : Nat → Int32) (hg : Nat → Int32) (xx : Nat → Int32) (ee : Nat → Int32), ((bm = true ∧ i ≤ K ∧ px = p_way (n - 1) y i) ∨ (bm = false ∧ i = K + 1)) → (bg = allN (p_cc gd gp (n - 1) y pn) i) → (bm = true → ((i = 0 ∧ wq = (-1)) ∨ (0 < i ∧ ∃ da : Nat, wq = nI da ∧ da + 8 ≤ 26 * i ∧ ∀ j, gp (da + j) = p_due gd gp (n - 1) y i j))) → (px ≤ 59) → K + 1 - i < fu1 → ∀ (H : Heap) (locs : List Loc) (ls : Array Slot), va_P G.1 vwCl (wMd G b gc gd gw gf gp ga gb hh hg xx ee n k z t kn pl lf pn) H → va_D A (wMd G b gc gd gw gf gp ga gb hh hg xx ee n k z t kn pl lf pn) → va_S A s.heap H locs → lv_has ls 8 [(0, .ref (b 0)), (1, .int (nI y)), (2, .int (nI px)), (3, .int (nI (26 * i))), (4, .int (bI bg)), (5, .int (bI bm)), (6, .int wq)] → W p l e ({ frames := 3, cells := 0, slots := 0, locals := 73 } : Room) s m args below meth c H locs 0 0 Q (F0 m 33 ls []) from hloop1 _ 0 true true (n - 1) (-1) gh gg gx ge (Or.inl ⟨rfl, Nat.zero_le _, rfl⟩) rfl (fun _ => Or.inl ⟨rfl, rfl⟩) (by omega) (Nat.lt_succ_self _) _ _ _ hP hD hS (lv_sub hl [5, 6, 4, 3, 2, 1, 0] rfl)
      clear hP hD hS hl
      intro fu1
      induction fu1 with
      | zero => intro i bm bg px wq hh hg xx ee hI hbg hwq hpx hfu; exact absurd hfu (Nat.not_lt_zero _)
      | succ fu1 ih1 =>
        intro i bm bg px wq hh hg xx ee hI hbg hwq hpx hfu1 H locs ls hP hD hS hl
        refine lv_iload hx hb dX3_check_33 (lv_at hl 5 rfl) ?_
        refine lv_if_eq (tgt := 229) hx hb dX3_check_35 (by decide) (fun c35 => ?_) (fun c35 => ?_)
        · refine lv_iload hx hb dX3_check_229 (lv_at hl 4 rfl) ?_
          refine lv_if_eq (tgt := 246) hx hb dX3_check_231 (by decide) (fun c231 => ?_) (fun c231 => ?_)
          · refine lv_iconst (v := nI 0) hx hb dX3_check_246 (by decide) ?_
            exact ret 247 _ _ _ (nI 0) (hh, hg, xx, ee) dX3_check_247 (Or.inr ⟨y, K, hy, rfl, hK0, res_F (hbg.symm.trans (bI_z c231)) (by have hi9 : i = K + 1 := (by rcases hI with h | h; rw [h.1] at c35; exact absurd c35 (by decide); exact h.2); omega)⟩) hP hD hS
          · refine lv_iload_n hx hb dX3_check_234 rfl (lv_at hl 3 rfl) ?_
            refine lv_aload_n hx hb dX3_check_235 rfl (lv_at hl 0 rfl) ?_
            refine va_get (D := G.1) (ci := 3) (v := .int (nI pn)) (C := RX3) (T := TX3) (N := 19) hx hb hts hiX3 hown hK hP 0 rfl rfl 12 (by decide) lk216 (fun _ h9 => h9) rfl dX3_check_236 ?_
            refine cmp_ne hx hb (26 * i) pn 246 (by omega) (by omega) dX3_check_239 (by decide) (fun c239 => ?_) (fun c239 => ?_)
            · refine lv_iconst (v := nI 0) hx hb dX3_check_246 (by decide) ?_
              exact ret 247 _ _ _ (nI 0) (hh, hg, xx, ee) dX3_check_247 (Or.inr ⟨y, K, hy, rfl, hK0, res_N (by have hi9 : i = K + 1 := (by rcases hI with h | h; rw [h.1] at c35; exact absurd c35 (by decide); exact h.2); omega)⟩) hP hD hS
            · refine lv_iconst (v := nI 1) hx hb dX3_check_242 (by decide) ?_
              refine lv_goto (tgt := 247) hx hb dX3_check_243 (by decide) ?_
              exact ret 247 _ _ _ (nI 1) (hh, hg, xx, ee) dX3_check_247 (Or.inr ⟨y, K, hy, rfl, hK0, by have hi9 : i = K + 1 := (by rcases hI with h | h; rw [h.1] at c35; exact absurd c35 (by decide); exact h.2); rw [hi9] at hbg c239; exact res_T (hbg.symm.trans (bI_n c231)) c239⟩) hP hD hS
        · refine lv_iload hx hb dX3_check_38 (lv_at hl 4 rfl) ?_
          refine lv_if_eq (tgt := 229) hx hb dX3_check_40 (by decide) (fun c40 => ?_) (fun c40 => ?_)
          · refine lv_iload hx hb dX3_check_229 (lv_at hl 4 rfl) ?_
            refine lv_if_eq (tgt := 246) hx hb dX3_check_231 (by decide) (fun c231 => ?_) (fun c231 => ?_)
            · refine lv_iconst (v := nI 0) hx hb dX3_check_246 (by decide) ?_
              exact ret 247 _ _ _ (nI 0) (hh, hg, xx, ee) dX3_check_247 (Or.inr ⟨y, K, hy, rfl, hK0, res_F (hbg.symm.trans (bI_z c231)) (by rcases hI with h | h; omega; omega)⟩) hP hD hS
            · refine lv_iload_n hx hb dX3_check_234 rfl (lv_at hl 3 rfl) ?_
              refine lv_aload_n hx hb dX3_check_235 rfl (lv_at hl 0 rfl) ?_
              refine va_get (D := G.1) (ci := 3) (v := .int (nI pn)) (C := RX3) (T := TX3) (N := 19) hx hb hts hiX3 hown hK hP 0 rfl rfl 12 (by decide) lk216 (fun _ h9 => h9) rfl dX3_check_236 ?_
              refine cmp_ne hx hb (26 * i) pn 246 (by omega) (by omega) dX3_check_239 (by decide) (fun c239 => ?_) (fun c239 => ?_)
              · refine lv_iconst (v := nI 0) hx hb dX3_check_246 (by decide) ?_
                exact ret 247 _ _ _ (nI 0) (hh, hg, xx, ee) dX3_check_247 (Or.inr ⟨y, K, hy, rfl, hK0, absurd c40 c231⟩) hP hD hS
              · refine lv_iconst (v := nI 1) hx hb dX3_check_242 (by decide) ?_
                refine lv_goto (tgt := 247) hx hb dX3_check_243 (by decide) ?_
                exact ret 247 _ _ _ (nI 1) (hh, hg, xx, ee) dX3_check_247 (Or.inr ⟨y, K, hy, rfl, hK0, absurd c40 c231⟩) hP hD hS
          · have hbm := bI_n c35
            have hbt := bI_n c40
            subst hbm
            subst hbt
            obtain ⟨hiK, rfl⟩ : i ≤ K ∧ px = p_way (n - 1) y i := by
              rcases hI with h | h
              · exact h.2
              · exact absurd h.1 (by decide)
            have hwl := end_le (i := i) hn hK0 hiK
            have hd0 : wq.toInt < 0 → ∀ j, gd j = p_due gd gp (n - 1) y i j := by
              intro hneg
              rcases hwq rfl with ⟨h1, _⟩ | ⟨_, da, h2, h3, _⟩
              · intro j; rw [h1]; rfl
              · rw [h2, tI_N (by omega)] at hneg; omega
            have hd1 : 0 ≤ wq.toInt → ∃ da : Nat, wq = nI da ∧ da + 8 ≤ 1560 ∧ ∀ j, gp (da + j) = p_due gd gp (n - 1) y i j := by
              intro hpos
              rcases hwq rfl with ⟨_, h1⟩ | ⟨_, da, h2, h3, h4⟩
              · rw [h1] at hpos; exact absurd hpos (by decide)
              · exact ⟨da, h2, by omega, h4⟩
            clear hwq hI
            refine lv_iload_n hx hb dX3_check_43 rfl (lv_at hl 3 rfl) ?_
            refine lv_bipush (v := nI 26) hx hb dX3_check_44 (by decide) ?_
            refine ad_N hx hb (26 * i) 26 dX3_check_46 ?_
            refine lv_aload_n hx hb dX3_check_47 rfl (lv_at hl 0 rfl) ?_
            refine va_get (D := G.1) (ci := 3) (v := .int (nI pn)) (C := RX3) (T := TX3) (N := 19) hx hb hts hiX3 hown hK hP 0 rfl rfl 12 (by decide) lk216 (fun _ h9 => h9) rfl dX3_check_48 ?_
            refine cmp_gt hx hb ((26 * i) + 26) pn 58 (by omega) (by omega) dX3_check_51 (by decide) (fun c51 => ?_) (fun c51 => ?_)
            · refine lv_iconst (v := nI 0) hx hb dX3_check_58 (by decide) ?_
              refine lv_istore (lv' := [(4, .int (nI 0)), (0, .ref (b 0)), (1, .int (nI y)), (2, .int (nI (p_way (n - 1) y i))), (3, .int (nI (26 * i))), (5, .int (bI true)), (6, .int wq)]) hx hb dX3_check_59 hl (by decide) rfl (fun ls hl => ?_)
              refine lv_iconst (v := nI 0) hx hb dX3_check_61 (by decide) ?_
              refine lv_istore (lv' := [(7, .int (nI 0)), (4, .int (nI 0)), (0, .ref (b 0)), (1, .int (nI y)), (2, .int (nI (p_way (n - 1) y i))), (3, .int (nI (26 * i))), (5, .int (bI true)), (6, .int wq)]) hx hb dX3_check_62 hl (by decide) rfl (fun ls hl => ?_)
              refine lv_iload hx hb dX3_check_64 (lv_at hl 0 rfl) ?_
              refine lv_bipush (v := nI 26) hx hb dX3_check_66 (by decide) ?_
              refine cmp_ge hx hb 0 26 98 (by omega) (by omega) dX3_check_68 (by decide) (fun q0 => absurd q0 (by decide)) (fun _ => ?_)
              refine lv_iload hx hb dX3_check_71 (lv_at hl 1 rfl) ?_
              refine if0_eq hx hb 0 98 (by omega) dX3_check_73 (by decide) (fun _ => ?_) (fun q0 => absurd q0 (by decide))
              refine lv_iload hx hb dX3_check_98 (lv_at hl 1 rfl) ?_
              refine if0_eq hx hb 0 111 (by omega) dX3_check_100 (by decide) (fun _ => ?_) (fun q0 => absurd q0 (by decide))
              refine lv_iconst (v := nI 0) hx hb dX3_check_111 (by decide) ?_
              refine lv_istore (lv' := [(7, .int (nI 0)), (4, .int (nI 0)), (0, .ref (b 0)), (1, .int (nI y)), (2, .int (nI (p_way (n - 1) y i))), (3, .int (nI (26 * i))), (5, .int (bI true)), (6, .int wq)]) hx hb dX3_check_112 hl (by decide) rfl (fun ls hl => ?_)
              refine lv_iload hx hb dX3_check_114 (lv_at hl 0 rfl) ?_
              refine lv_bipush (v := nI 8) hx hb dX3_check_116 (by decide) ?_
              refine cmp_ge hx hb 0 8 174 (by omega) (by omega) dX3_check_118 (by decide) (fun q0 => absurd q0 (by decide)) (fun _ => ?_)
              refine lv_iload hx hb dX3_check_121 (lv_at hl 1 rfl) ?_
              refine if0_eq hx hb 0 174 (by omega) dX3_check_123 (by decide) (fun _ => ?_) (fun q0 => absurd q0 (by decide))
              have hgn : false = allN (p_cc gd gp (n - 1) y pn) (i + 1) := by rw [allN, ← hbg, Bool.true_and, p_cc, decide_eq_false (by omega)]; rfl
              clear hd0 hd1
              refine lv_iload_n hx hb dX3_check_174 rfl (lv_at hl 4 rfl) ?_
              refine lv_iload_n hx hb dX3_check_175 rfl (lv_at hl 3 rfl) ?_
              refine cmp_le hx hb (p_way (n - 1) y i) y 183 (by omega) (by omega) dX3_check_176 (by decide) (fun c176 => ?_) (fun c176 => ?_)
              · refine lv_iconst (v := nI 0) hx hb dX3_check_183 (by decide) ?_
                refine lv_istore (lv' := [(5, .int (nI 0)), (7, .int (nI 0)), (4, .int (nI 0)), (0, .ref (b 0)), (1, .int (nI y)), (2, .int (nI (p_way (n - 1) y i))), (3, .int (nI (26 * i))), (6, .int wq)]) hx hb dX3_check_184 hl (by decide) rfl (fun ls hl => ?_)
                refine lv_iload hx hb dX3_check_186 (lv_at hl 0 rfl) ?_
                refine if0_eq hx hb 0 223 (by omega) dX3_check_188 (by decide) (fun _ => ?_) (fun q0 => absurd q0 (by decide))
                refine lv_iinc (v := nI (26 * i + 26)) (lv' := [(3, .int (nI (26 * i + 26))), (5, .int (nI 0)), (7, .int (nI 0)), (4, .int (nI 0)), (0, .ref (b 0)), (1, .int (nI y)), (2, .int (nI (p_way (n - 1) y i))), (6, .int wq)]) hx hb dX3_check_223 hl (k := 6) rfl (inc_N (26 * i) 26) (by decide) rfl (fun ls hl => ?_)
                refine lv_goto (tgt := 33) hx hb dX3_check_226 (by decide) ?_
                exact ih1 (i + 1) false false (p_way (n - 1) y i) wq hh hg xx ee (Or.inr ⟨rfl, by have : K = i := Nat.le_antisymm (Nat.le_of_not_lt fun z => by have := hK0.1 i z; omega) hiK; omega⟩) hgn (fun z => absurd z (by decide)) (by omega) (by omega) _ _ _ hP hD hS (lv_sub hl [4, 5, 6, 0, 3, 1, 7] rfl)
              · refine lv_iconst (v := nI 1) hx hb dX3_check_179 (by decide) ?_
                refine lv_goto (tgt := 184) hx hb dX3_check_180 (by decide) ?_
                refine lv_istore (lv' := [(5, .int (nI 1)), (7, .int (nI 0)), (4, .int (nI 0)), (0, .ref (b 0)), (1, .int (nI y)), (2, .int (nI (p_way (n - 1) y i))), (3, .int (nI (26 * i))), (6, .int wq)]) hx hb dX3_check_184 hl (by decide) rfl (fun ls hl => ?_)
                refine lv_iload hx hb dX3_check_186 (lv_at hl 0 rfl) ?_
                refine if0_eq hx hb 1 223 (by omega) dX3_check_188 (by decide) (fun q0 => absurd q0 (by decide)) (fun _ => ?_)
                refine lv_aload_n hx hb dX3_check_191 rfl (lv_at hl 3 rfl) ?_
                refine lv_iload_n hx hb dX3_check_192 rfl (lv_at hl 5 rfl) ?_
                refine lv_iload_n hx hb dX3_check_193 rfl (lv_at hl 4 rfl) ?_
                refine call_Vi (wr := ([] : va_W)) [.int (nI (p_way (n - 1) y i)), .int (nI y)] [] ⟨hx, hb, hml, hown, hts⟩ hK hX hA hP hD hS (m_next l G _ b gc gd gw gf gp ga gb hh hg xx ee n k z t kn pl lf pn (p_way (n - 1) y i) y (by omega) (by omega) (by omega) (by omega) (by omega) (by omega) (by omega) hga hgb (by omega) (by omega)) (cwV 2 hts gX3_check_X3_next rfl rfl rfl (by decide +kernel) ⟨Nat.le_of_ble_eq_true rfl, Nat.le_of_ble_eq_true rfl⟩) 3 0 rfl rfl rfl [0, 1, 2, 3, 4, 5, 6, 7, 8, 9, 10, 11] [] rfl rfl (by decide) (by decide) (by decide) rfl hl.1 (Nat.le_of_ble_eq_true rfl) dX3_check_194 ⟨Nat.zero_le _, Nat.zero_le _⟩ (fun r_11 u H locs hw hP hD hS => ?_)
                obtain rfl := hw
                have hP : va_P G.1 vwCl (wMd G b gc gd gw gf gp ga gb hh hg xx ee n k z t kn pl lf pn) H := hP
                have hD : va_D A (wMd G b gc gd gw gf gp ga gb hh hg xx ee n k z t kn pl lf pn) := hD
                refine lv_istore (lv' := [(7, .int (nI (p_nx (p_way (n - 1) y i) y))), (5, .int (nI 1)), (4, .int (nI 0)), (0, .ref (b 0)), (1, .int (nI y)), (2, .int (nI (p_way (n - 1) y i))), (3, .int (nI (26 * i))), (6, .int wq)]) hx hb dX3_check_197 hl (by decide) rfl (fun ls hl => ?_)
                refine lv_iload hx hb dX3_check_199 (lv_at hl 0 rfl) ?_
                refine lv_iload_n hx hb dX3_check_201 rfl (lv_at hl 5 rfl) ?_
                refine lv_iload_n hx hb dX3_check_202 rfl (lv_at hl 5 rfl) ?_
                refine call_Si (wr := ([(b 0, .inr (3, [.ref (b 1), .int (nI n), .ref (b 2), .ref (b 3), .int (nI k), .int (nI z), .int (nI t), .int kn, .ref (b 4), .int (nI pl), .int (nI lf), .ref (b 5), .int (nI pn), .ref (b 6), .ref (b 7), .ref (b 8), .ref (b 9), .ref (b 10), .ref (b 11)])), (b 1, .inl (G.2.2.1, 2040, .inl gc)), (b 2, .inl (G.2.2.1, 8, .inl gd)), (b 3, .inl (G.2.2.1, 8, .inl gw)), (b 4, .inl (G.2.2.2, 1024, .inl gf)), (b 5, .inl (G.2.2.1, 1600, .inl gp)), (b 6, .inl (G.2.2.1, 64, .inl ga)), (b 7, .inl (G.2.2.1, 8, .inl gb)), (b 8, .inl (G.2.2.1, 8, .inl hh)), (b 9, .inl (G.2.2.1, 8, .inl hg)), (b 10, .inl (G.2.2.1, 64, .inl xx)), (b 11, .inl (G.2.2.1, 26, .inl ee))] : va_W)) [.int (nI (p_way (n - 1) y i))] [.int (nI (p_way (n - 1) y i)), .int (nI (p_nx (p_way (n - 1) y i) y))] ⟨hx, hb, hml, hown, hts⟩ hK hX hA hP hD hS (m_lowest l G _ (nI (p_way (n - 1) y i))) (va_cwS 1 hts gX3_check_X3_lowest rfl rfl rfl (by decide +kernel) ⟨Nat.le_of_ble_eq_true rfl, Nat.le_of_ble_eq_true rfl⟩) [] [0, 1, 2, 3, 4, 5, 6, 7, 8, 9, 10, 11] rfl rfl (by decide) (by decide) (by decide) rfl hl.1 (Nat.le_of_ble_eq_true rfl) dX3_check_203 ⟨Nat.zero_le _, Nat.zero_le _⟩ (fun r_12 u H locs hw hP hD hS => ?_)
                obtain rfl := hw
                have hP : va_P G.1 vwCl (wMd G b gc gd gw gf gp ga gb hh hg xx ee n k z t kn pl lf pn) H := hP
                have hD : va_D A (wMd G b gc gd gw gf gp ga gb hh hg xx ee n k z t kn pl lf pn) := hD
                refine lv_isub hx hb dX3_check_206 ?_
                refine top_i (nI (p_sk (p_way (n - 1) y i))) (sk_eq _ (by omega)) ?_
                have hskl := sk_lt (p_way (n - 1) y i) (by omega) (by omega)
                have hnxl := nx_lt (x := p_way (n - 1) y i) (e := y) (by omega) c176
                refine cmp_ne hx hb (p_nx (p_way (n - 1) y i) y) (p_sk (p_way (n - 1) y i)) 217 (by omega) (by omega) dX3_check_207 (by decide) (fun c207 => ?_) (fun c207 => ?_)
                · refine lv_iload_n hx hb dX3_check_217 rfl (lv_at hl 6 rfl) ?_
                  refine lv_istore (lv' := [(6, .int (nI (26 * i))), (7, .int (nI (p_nx (p_way (n - 1) y i) y))), (5, .int (nI 1)), (4, .int (nI 0)), (0, .ref (b 0)), (1, .int (nI y)), (2, .int (nI (p_way (n - 1) y i))), (3, .int (nI (26 * i)))]) hx hb dX3_check_218 hl (by decide) rfl (fun ls hl => ?_)
                  refine lv_iload hx hb dX3_check_220 (lv_at hl 1 rfl) ?_
                  refine lv_istore_n (lv' := [(2, .int (nI (p_nx (p_way (n - 1) y i) y))), (6, .int (nI (26 * i))), (7, .int (nI (p_nx (p_way (n - 1) y i) y))), (5, .int (nI 1)), (4, .int (nI 0)), (0, .ref (b 0)), (1, .int (nI y)), (3, .int (nI (26 * i)))]) hx hb dX3_check_222 rfl hl (by decide) rfl (fun ls hl => ?_)
                  refine lv_iinc (v := nI (26 * i + 26)) (lv' := [(3, .int (nI (26 * i + 26))), (2, .int (nI (p_nx (p_way (n - 1) y i) y))), (6, .int (nI (26 * i))), (7, .int (nI (p_nx (p_way (n - 1) y i) y))), (5, .int (nI 1)), (4, .int (nI 0)), (0, .ref (b 0)), (1, .int (nI y))]) hx hb dX3_check_223 hl (k := 7) rfl (inc_N (26 * i) 26) (by decide) rfl (fun ls hl => ?_)
                  refine lv_goto (tgt := 33) hx hb dX3_check_226 (by decide) ?_
                  exact ih1 (i + 1) true false (p_nx (p_way (n - 1) y i) y) (nI (26 * i)) hh hg xx ee (Or.inl ⟨rfl, by rcases Nat.lt_or_ge i K with q1 | q1; omega; have := hK0.2; rw [show K = i by omega] at this; omega, rfl⟩) hgn (fun _ => Or.inr ⟨by omega, (26 * i), rfl, by omega, fun j => by show _ = gp (26 * i + (if p_by (p_way (n - 1) y i) y then 8 else 0) + j); rw [if_neg (by_F c176 c207)]; first | done | rfl⟩) (by omega) (by omega) _ _ _ hP hD hS (lv_sub hl [6, 7, 1, 0, 5, 4, 2] rfl)
                · refine lv_iload_n hx hb dX3_check_210 rfl (lv_at hl 6 rfl) ?_
                  refine lv_bipush (v := nI 8) hx hb dX3_check_211 (by decide) ?_
                  refine ad_N hx hb (26 * i) 8 dX3_check_213 ?_
                  refine lv_goto (tgt := 218) hx hb dX3_check_214 (by decide) ?_
                  refine lv_istore (lv' := [(6, .int (nI ((26 * i) + 8))), (7, .int (nI (p_nx (p_way (n - 1) y i) y))), (5, .int (nI 1)), (4, .int (nI 0)), (0, .ref (b 0)), (1, .int (nI y)), (2, .int (nI (p_way (n - 1) y i))), (3, .int (nI (26 * i)))]) hx hb dX3_check_218 hl (by decide) rfl (fun ls hl => ?_)
                  refine lv_iload hx hb dX3_check_220 (lv_at hl 1 rfl) ?_
                  refine lv_istore_n (lv' := [(2, .int (nI (p_nx (p_way (n - 1) y i) y))), (6, .int (nI ((26 * i) + 8))), (7, .int (nI (p_nx (p_way (n - 1) y i) y))), (5, .int (nI 1)), (4, .int (nI 0)), (0, .ref (b 0)), (1, .int (nI y)), (3, .int (nI (26 * i)))]) hx hb dX3_check_222 rfl hl (by decide) rfl (fun ls hl => ?_)
                  refine lv_iinc (v := nI (26 * i + 26)) (lv' := [(3, .int (nI (26 * i + 26))), (2, .int (nI (p_nx (p_way (n - 1) y i) y))), (6, .int (nI ((26 * i) + 8))), (7, .int (nI (p_nx (p_way (n - 1) y i) y))), (5, .int (nI 1)), (4, .int (nI 0)), (0, .ref (b 0)), (1, .int (nI y))]) hx hb dX3_check_223 hl (k := 7) rfl (inc_N (26 * i) 26) (by decide) rfl (fun ls hl => ?_)
                  refine lv_goto (tgt := 33) hx hb dX3_check_226 (by decide) ?_
                  exact ih1 (i + 1) true false (p_nx (p_way (n - 1) y i) y) (nI ((26 * i) + 8)) hh hg xx ee (Or.inl ⟨rfl, by rcases Nat.lt_or_ge i K with q1 | q1; omega; have := hK0.2; rw [show K = i by omega] at this; omega, rfl⟩) hgn (fun _ => Or.inr ⟨by omega, ((26 * i) + 8), rfl, by omega, fun j => by show _ = gp (26 * i + (if p_by (p_way (n - 1) y i) y then 8 else 0) + j); rw [if_pos (by_T (by omega) c176 c207)]; first | done | rfl⟩) (by omega) (by omega) _ _ _ hP hD hS (lv_sub hl [6, 7, 1, 0, 5, 4, 2] rfl)
            · refine lv_iconst (v := nI 1) hx hb dX3_check_54 (by decide) ?_
              refine lv_goto (tgt := 59) hx hb dX3_check_55 (by decide) ?_
              refine lv_istore (lv' := [(4, .int (nI 1)), (0, .ref (b 0)), (1, .int (nI y)), (2, .int (nI (p_way (n - 1) y i))), (3, .int (nI (26 * i))), (5, .int (bI true)), (6, .int wq)]) hx hb dX3_check_59 hl (by decide) rfl (fun ls hl => ?_)
              refine lv_iconst (v := nI 0) hx hb dX3_check_61 (by decide) ?_
              refine lv_istore (lv' := [(7, .int (nI 0)), (4, .int (nI 1)), (0, .ref (b 0)), (1, .int (nI y)), (2, .int (nI (p_way (n - 1) y i))), (3, .int (nI (26 * i))), (5, .int (bI true)), (6, .int wq)]) hx hb dX3_check_62 hl (by decide) rfl (fun ls hl => ?_)
              have hP : va_P G.1 vwCl (wMd G b gc gd gw gf gp ga gb hh hg xx (va_cpy gp ee (26 * i) 0 0) n k z t kn pl lf pn) H := by rw [cpy_n0]; exact hP
              have hD : va_D A (wMd G b gc gd gw gf gp ga gb hh hg xx (va_cpy gp ee (26 * i) 0 0) n k z t kn pl lf pn) := by rw [cpy_n0]; exact hD
              suffices hloop2 : ∀ (fu2 : Nat) (k1 : Nat), (k1 ≤ 26) → 26 - k1 < fu2 → ∀ (H : Heap) (locs : List Loc) (ls : Array Slot), va_P G.1 vwCl (wMd G b gc gd gw gf gp ga gb hh hg xx (va_cpy gp ee (26 * i) 0 k1) n k z t kn pl lf pn) H → va_D A (wMd G b gc gd gw gf gp ga gb hh hg xx (va_cpy gp ee (26 * i) 0 k1) n k z t kn pl lf pn) → va_S A s.heap H locs → lv_has ls 8 [(0, .ref (b 0)), (1, .int (nI y)), (2, .int (nI (p_way (n - 1) y i))), (3, .int (nI (26 * i))), (4, .int (nI 1)), (5, .int (bI true)), (6, .int wq), (7, .int (nI k1))] → W p l e ({ frames := 3, cells := 0, slots := 0, locals := 73 } : Room) s m args below meth c H locs 0 0 Q (F0 m 64 ls []) from hloop2 _ 0 (Nat.zero_le _) (Nat.lt_succ_self _) _ _ _ hP hD hS (lv_sub hl [2, 3, 4, 5, 1, 6, 7, 0] rfl)
              clear hP hD hS hl
              intro fu2
              induction fu2 with
              | zero => intro k1 hk1 hfu; exact absurd hfu (Nat.not_lt_zero _)
              | succ fu2 ih2 =>
                intro k1 hk1 hfu2 H locs ls hP hD hS hl
                refine lv_iload hx hb dX3_check_64 (lv_at hl 7 rfl) ?_
                refine lv_bipush (v := nI 26) hx hb dX3_check_66 (by decide) ?_
                refine cmp_ge hx hb k1 26 98 (by omega) (by omega) dX3_check_68 (by decide) (fun c68 => ?_) (fun c68 => ?_)
                · have e98 : k1 = 26 := by omega
                  subst e98
                  refine lv_iload hx hb dX3_check_98 (lv_at hl 4 rfl) ?_
                  refine if0_eq hx hb 1 111 (by omega) dX3_check_100 (by decide) (fun q0 => absurd q0 (by decide)) (fun _ => ?_)
                  refine lv_aload_n hx hb dX3_check_103 rfl (lv_at hl 0 rfl) ?_
                  refine call_Vv (wr := ([] : va_W)) [] [] ⟨hx, hb, hml, hown, hts⟩ hK hX hA hP hD hS (m_mixFirst l G _ b gc gd gw gf gp ga gb hh hg xx (va_cpy gp ee (26 * i) 0 26) n k z t kn pl lf pn  (by omega) (by omega) (by omega) (by omega) (by omega) (by omega) (by omega) hga hgb) (cwV 0 hts gX3_check_X3_mixFirst rfl rfl rfl (by decide +kernel) ⟨Nat.le_of_ble_eq_true rfl, Nat.le_of_ble_eq_true rfl⟩) 3 0 rfl rfl rfl [0, 1, 2, 3, 4, 5, 6, 7, 8, 9, 10, 11] [] rfl rfl (by decide) (by decide) (by decide) rfl hl.1 (Nat.le_of_ble_eq_true rfl) dX3_check_104 ⟨Nat.zero_le _, Nat.zero_le _⟩ (fun u H locs hw hP hD hS => ?_)
                  obtain ⟨hu_16, gu_16, xu_16⟩ := u
                  have qu_16 : ∀ j, j < 8 → gu_16 j = p_h1 (va_cpy gp ee (26 * i) 0 26) 0 j := hw
                  have hP : va_P G.1 vwCl (wMd G b gc gd gw gf gp ga gb hu_16 gu_16 xu_16 (va_cpy gp ee (26 * i) 0 26) n k z t kn pl lf pn) H := hP
                  have hD : va_D A (wMd G b gc gd gw gf gp ga gb hu_16 gu_16 xu_16 (va_cpy gp ee (26 * i) 0 26) n k z t kn pl lf pn) := hD
                  refine lv_aload_n hx hb dX3_check_107 rfl (lv_at hl 0 rfl) ?_
                  refine call_Vv (wr := ([] : va_W)) [] [] ⟨hx, hb, hml, hown, hts⟩ hK hX hA hP hD hS (m_mixSecond l G _ b gc gd gw gf gp ga gb hu_16 gu_16 xu_16 (va_cpy gp ee (26 * i) 0 26) n k z t kn pl lf pn  (by omega) (by omega) (by omega) (by omega) (by omega) (by omega) (by omega) hga hgb) (cwV 0 hts gX3_check_X3_mixSecond rfl rfl rfl (by decide +kernel) ⟨Nat.le_of_ble_eq_true rfl, Nat.le_of_ble_eq_true rfl⟩) 3 0 rfl rfl rfl [0, 1, 2, 3, 4, 5, 6, 7, 8, 9, 10, 11] [] rfl rfl (by decide) (by decide) (by decide) rfl hl.1 (Nat.le_of_ble_eq_true rfl) dX3_check_108 ⟨Nat.zero_le _, Nat.zero_le _⟩ (fun u H locs hw hP hD hS => ?_)
                  obtain ⟨hu_18, xu_18⟩ := u
                  have qu_18 : ∀ j, j < 8 → hu_18 j = p_mix gu_16 (p_b2 (va_cpy gp ee (26 * i) 0 26) 0) j := hw
                  have hP : va_P G.1 vwCl (wMd G b gc gd gw gf gp ga gb hu_18 gu_16 xu_18 (va_cpy gp ee (26 * i) 0 26) n k z t kn pl lf pn) H := hP
                  have hD : va_D A (wMd G b gc gd gw gf gp ga gb hu_18 gu_16 xu_18 (va_cpy gp ee (26 * i) 0 26) n k z t kn pl lf pn) := hD
                  have hqh : ∀ j, j < 8 → hu_18 j = p_hash gp (26 * i) j := fun j hj => ((qu_18 j hj).trans (p_mix_congr qu_16 (fun _ _ => rfl) j hj)).trans (hash_congr (fun a h => by rw [Nat.zero_add, cpy_0 h]) j hj)
                  refine lv_iconst (v := nI 0) hx hb dX3_check_111 (by decide) ?_
                  refine lv_istore (lv' := [(7, .int (nI 0)), (0, .ref (b 0)), (1, .int (nI y)), (2, .int (nI (p_way (n - 1) y i))), (3, .int (nI (26 * i))), (4, .int (nI 1)), (5, .int (bI true)), (6, .int wq)]) hx hb dX3_check_112 hl (by decide) rfl (fun ls hl => ?_)
                  suffices hloop3 : ∀ (fu3 : Nat) (j : Nat) (g2 : Bool), (j ≤ 8) → (g2 = allN (fun a => decide (p_due gd gp (n - 1) y i a = p_hash gp (26 * i) a)) j) → 8 - j < fu3 → ∀ (H : Heap) (locs : List Loc) (ls : Array Slot), va_P G.1 vwCl (wMd G b gc gd gw gf gp ga gb hu_18 gu_16 xu_18 (va_cpy gp ee (26 * i) 0 26) n k z t kn pl lf pn) H → va_D A (wMd G b gc gd gw gf gp ga gb hu_18 gu_16 xu_18 (va_cpy gp ee (26 * i) 0 26) n k z t kn pl lf pn) → va_S A s.heap H locs → lv_has ls 8 [(0, .ref (b 0)), (1, .int (nI y)), (2, .int (nI (p_way (n - 1) y i))), (3, .int (nI (26 * i))), (4, .int (bI g2)), (5, .int (bI true)), (6, .int wq), (7, .int (nI j))] → W p l e ({ frames := 3, cells := 0, slots := 0, locals := 73 } : Room) s m args below meth c H locs 0 0 Q (F0 m 114 ls []) from hloop3 _ 0 true (Nat.zero_le _) rfl (Nat.lt_succ_self _) _ _ _ hP hD hS (lv_sub hl [1, 2, 3, 4, 5, 6, 7, 0] rfl)
                  clear hP hD hS hl
                  intro fu3
                  induction fu3 with
                  | zero => intro j g2 hj hg2 hfu; exact absurd hfu (Nat.not_lt_zero _)
                  | succ fu3 ih3 =>
                    intro j g2 hj hg2 hfu3 H locs ls hP hD hS hl
                    refine lv_iload hx hb dX3_check_114 (lv_at hl 7 rfl) ?_
                    refine lv_bipush (v := nI 8) hx hb dX3_check_116 (by decide) ?_
                    refine cmp_ge hx hb j 8 174 (by omega) (by omega) dX3_check_118 (by decide) (fun c118 => ?_) (fun c118 => ?_)
                    · have hgn : g2 = allN (p_cc gd gp (n - 1) y pn) (i + 1) := by
                        rw [allN, ← hbg, Bool.true_and, p_cc, decide_eq_true (by omega), Bool.true_and, p_chk]
                        rw [hg2, show j = 8 by omega]
                      clear hd0 hd1
                      refine lv_iload_n hx hb dX3_check_174 rfl (lv_at hl 2 rfl) ?_
                      refine lv_iload_n hx hb dX3_check_175 rfl (lv_at hl 1 rfl) ?_
                      refine cmp_le hx hb (p_way (n - 1) y i) y 183 (by omega) (by omega) dX3_check_176 (by decide) (fun c176 => ?_) (fun c176 => ?_)
                      · refine lv_iconst (v := nI 0) hx hb dX3_check_183 (by decide) ?_
                        refine lv_istore (lv' := [(5, .int (nI 0)), (0, .ref (b 0)), (1, .int (nI y)), (2, .int (nI (p_way (n - 1) y i))), (3, .int (nI (26 * i))), (4, .int (bI g2)), (6, .int wq), (7, .int (nI j))]) hx hb dX3_check_184 hl (by decide) rfl (fun ls hl => ?_)
                        refine lv_iload hx hb dX3_check_186 (lv_at hl 0 rfl) ?_
                        refine if0_eq hx hb 0 223 (by omega) dX3_check_188 (by decide) (fun _ => ?_) (fun q0 => absurd q0 (by decide))
                        refine lv_iinc (v := nI (26 * i + 26)) (lv' := [(3, .int (nI (26 * i + 26))), (5, .int (nI 0)), (0, .ref (b 0)), (1, .int (nI y)), (2, .int (nI (p_way (n - 1) y i))), (4, .int (bI g2)), (6, .int wq), (7, .int (nI j))]) hx hb dX3_check_223 hl (k := 4) rfl (inc_N (26 * i) 26) (by decide) rfl (fun ls hl => ?_)
                        refine lv_goto (tgt := 33) hx hb dX3_check_226 (by decide) ?_
                        exact ih1 (i + 1) false g2 (p_way (n - 1) y i) wq hu_18 gu_16 xu_18 (va_cpy gp ee (26 * i) 0 26) (Or.inr ⟨rfl, by have : K = i := Nat.le_antisymm (Nat.le_of_not_lt fun z => by have := hK0.1 i z; omega) hiK; omega⟩) hgn (fun z => absurd z (by decide)) (by omega) (by omega) _ _ _ hP hD hS (lv_sub hl [2, 3, 4, 0, 5, 1, 6] rfl)
                      · refine lv_iconst (v := nI 1) hx hb dX3_check_179 (by decide) ?_
                        refine lv_goto (tgt := 184) hx hb dX3_check_180 (by decide) ?_
                        refine lv_istore (lv' := [(5, .int (nI 1)), (0, .ref (b 0)), (1, .int (nI y)), (2, .int (nI (p_way (n - 1) y i))), (3, .int (nI (26 * i))), (4, .int (bI g2)), (6, .int wq), (7, .int (nI j))]) hx hb dX3_check_184 hl (by decide) rfl (fun ls hl => ?_)
                        refine lv_iload hx hb dX3_check_186 (lv_at hl 0 rfl) ?_
                        refine if0_eq hx hb 1 223 (by omega) dX3_check_188 (by decide) (fun q0 => absurd q0 (by decide)) (fun _ => ?_)
                        refine lv_aload_n hx hb dX3_check_191 rfl (lv_at hl 1 rfl) ?_
                        refine lv_iload_n hx hb dX3_check_192 rfl (lv_at hl 3 rfl) ?_
                        refine lv_iload_n hx hb dX3_check_193 rfl (lv_at hl 2 rfl) ?_
                        refine call_Vi (wr := ([] : va_W)) [.int (nI (p_way (n - 1) y i)), .int (nI y)] [] ⟨hx, hb, hml, hown, hts⟩ hK hX hA hP hD hS (m_next l G _ b gc gd gw gf gp ga gb hu_18 gu_16 xu_18 (va_cpy gp ee (26 * i) 0 26) n k z t kn pl lf pn (p_way (n - 1) y i) y (by omega) (by omega) (by omega) (by omega) (by omega) (by omega) (by omega) hga hgb (by omega) (by omega)) (cwV 2 hts gX3_check_X3_next rfl rfl rfl (by decide +kernel) ⟨Nat.le_of_ble_eq_true rfl, Nat.le_of_ble_eq_true rfl⟩) 3 0 rfl rfl rfl [0, 1, 2, 3, 4, 5, 6, 7, 8, 9, 10, 11] [] rfl rfl (by decide) (by decide) (by decide) rfl hl.1 (Nat.le_of_ble_eq_true rfl) dX3_check_194 ⟨Nat.zero_le _, Nat.zero_le _⟩ (fun r_21 u H locs hw hP hD hS => ?_)
                        obtain rfl := hw
                        have hP : va_P G.1 vwCl (wMd G b gc gd gw gf gp ga gb hu_18 gu_16 xu_18 (va_cpy gp ee (26 * i) 0 26) n k z t kn pl lf pn) H := hP
                        have hD : va_D A (wMd G b gc gd gw gf gp ga gb hu_18 gu_16 xu_18 (va_cpy gp ee (26 * i) 0 26) n k z t kn pl lf pn) := hD
                        refine lv_istore (lv' := [(7, .int (nI (p_nx (p_way (n - 1) y i) y))), (5, .int (nI 1)), (0, .ref (b 0)), (1, .int (nI y)), (2, .int (nI (p_way (n - 1) y i))), (3, .int (nI (26 * i))), (4, .int (bI g2)), (6, .int wq)]) hx hb dX3_check_197 hl (by decide) rfl (fun ls hl => ?_)
                        refine lv_iload hx hb dX3_check_199 (lv_at hl 0 rfl) ?_
                        refine lv_iload_n hx hb dX3_check_201 rfl (lv_at hl 4 rfl) ?_
                        refine lv_iload_n hx hb dX3_check_202 rfl (lv_at hl 4 rfl) ?_
                        refine call_Si (wr := ([(b 0, .inr (3, [.ref (b 1), .int (nI n), .ref (b 2), .ref (b 3), .int (nI k), .int (nI z), .int (nI t), .int kn, .ref (b 4), .int (nI pl), .int (nI lf), .ref (b 5), .int (nI pn), .ref (b 6), .ref (b 7), .ref (b 8), .ref (b 9), .ref (b 10), .ref (b 11)])), (b 1, .inl (G.2.2.1, 2040, .inl gc)), (b 2, .inl (G.2.2.1, 8, .inl gd)), (b 3, .inl (G.2.2.1, 8, .inl gw)), (b 4, .inl (G.2.2.2, 1024, .inl gf)), (b 5, .inl (G.2.2.1, 1600, .inl gp)), (b 6, .inl (G.2.2.1, 64, .inl ga)), (b 7, .inl (G.2.2.1, 8, .inl gb)), (b 8, .inl (G.2.2.1, 8, .inl hu_18)), (b 9, .inl (G.2.2.1, 8, .inl gu_16)), (b 10, .inl (G.2.2.1, 64, .inl xu_18)), (b 11, .inl (G.2.2.1, 26, .inl (va_cpy gp ee (26 * i) 0 26)))] : va_W)) [.int (nI (p_way (n - 1) y i))] [.int (nI (p_way (n - 1) y i)), .int (nI (p_nx (p_way (n - 1) y i) y))] ⟨hx, hb, hml, hown, hts⟩ hK hX hA hP hD hS (m_lowest l G _ (nI (p_way (n - 1) y i))) (va_cwS 1 hts gX3_check_X3_lowest rfl rfl rfl (by decide +kernel) ⟨Nat.le_of_ble_eq_true rfl, Nat.le_of_ble_eq_true rfl⟩) [] [0, 1, 2, 3, 4, 5, 6, 7, 8, 9, 10, 11] rfl rfl (by decide) (by decide) (by decide) rfl hl.1 (Nat.le_of_ble_eq_true rfl) dX3_check_203 ⟨Nat.zero_le _, Nat.zero_le _⟩ (fun r_22 u H locs hw hP hD hS => ?_)
                        obtain rfl := hw
                        have hP : va_P G.1 vwCl (wMd G b gc gd gw gf gp ga gb hu_18 gu_16 xu_18 (va_cpy gp ee (26 * i) 0 26) n k z t kn pl lf pn) H := hP
                        have hD : va_D A (wMd G b gc gd gw gf gp ga gb hu_18 gu_16 xu_18 (va_cpy gp ee (26 * i) 0 26) n k z t kn pl lf pn) := hD
                        refine lv_isub hx hb dX3_check_206 ?_
                        refine top_i (nI (p_sk (p_way (n - 1) y i))) (sk_eq _ (by omega)) ?_
                        have hskl := sk_lt (p_way (n - 1) y i) (by omega) (by omega)
                        have hnxl := nx_lt (x := p_way (n - 1) y i) (e := y) (by omega) c176
                        refine cmp_ne hx hb (p_nx (p_way (n - 1) y i) y) (p_sk (p_way (n - 1) y i)) 217 (by omega) (by omega) dX3_check_207 (by decide) (fun c207 => ?_) (fun c207 => ?_)
                        · refine lv_iload_n hx hb dX3_check_217 rfl (lv_at hl 5 rfl) ?_
                          refine lv_istore (lv' := [(6, .int (nI (26 * i))), (7, .int (nI (p_nx (p_way (n - 1) y i) y))), (5, .int (nI 1)), (0, .ref (b 0)), (1, .int (nI y)), (2, .int (nI (p_way (n - 1) y i))), (3, .int (nI (26 * i))), (4, .int (bI g2))]) hx hb dX3_check_218 hl (by decide) rfl (fun ls hl => ?_)
                          refine lv_iload hx hb dX3_check_220 (lv_at hl 1 rfl) ?_
                          refine lv_istore_n (lv' := [(2, .int (nI (p_nx (p_way (n - 1) y i) y))), (6, .int (nI (26 * i))), (7, .int (nI (p_nx (p_way (n - 1) y i) y))), (5, .int (nI 1)), (0, .ref (b 0)), (1, .int (nI y)), (3, .int (nI (26 * i))), (4, .int (bI g2))]) hx hb dX3_check_222 rfl hl (by decide) rfl (fun ls hl => ?_)
                          refine lv_iinc (v := nI (26 * i + 26)) (lv' := [(3, .int (nI (26 * i + 26))), (2, .int (nI (p_nx (p_way (n - 1) y i) y))), (6, .int (nI (26 * i))), (7, .int (nI (p_nx (p_way (n - 1) y i) y))), (5, .int (nI 1)), (0, .ref (b 0)), (1, .int (nI y)), (4, .int (bI g2))]) hx hb dX3_check_223 hl (k := 6) rfl (inc_N (26 * i) 26) (by decide) rfl (fun ls hl => ?_)
                          refine lv_goto (tgt := 33) hx hb dX3_check_226 (by decide) ?_
                          exact ih1 (i + 1) true g2 (p_nx (p_way (n - 1) y i) y) (nI (26 * i)) hu_18 gu_16 xu_18 (va_cpy gp ee (26 * i) 0 26) (Or.inl ⟨rfl, by rcases Nat.lt_or_ge i K with q1 | q1; omega; have := hK0.2; rw [show K = i by omega] at this; omega, rfl⟩) hgn (fun _ => Or.inr ⟨by omega, (26 * i), rfl, by omega, fun j => by show _ = gp (26 * i + (if p_by (p_way (n - 1) y i) y then 8 else 0) + j); rw [if_neg (by_F c176 c207)]; first | done | rfl⟩) (by omega) (by omega) _ _ _ hP hD hS (lv_sub hl [5, 6, 1, 0, 7, 4, 2] rfl)
                        · refine lv_iload_n hx hb dX3_check_210 rfl (lv_at hl 5 rfl) ?_
                          refine lv_bipush (v := nI 8) hx hb dX3_check_211 (by decide) ?_
                          refine ad_N hx hb (26 * i) 8 dX3_check_213 ?_
                          refine lv_goto (tgt := 218) hx hb dX3_check_214 (by decide) ?_
                          refine lv_istore (lv' := [(6, .int (nI ((26 * i) + 8))), (7, .int (nI (p_nx (p_way (n - 1) y i) y))), (5, .int (nI 1)), (0, .ref (b 0)), (1, .int (nI y)), (2, .int (nI (p_way (n - 1) y i))), (3, .int (nI (26 * i))), (4, .int (bI g2))]) hx hb dX3_check_218 hl (by decide) rfl (fun ls hl => ?_)
                          refine lv_iload hx hb dX3_check_220 (lv_at hl 1 rfl) ?_
                          refine lv_istore_n (lv' := [(2, .int (nI (p_nx (p_way (n - 1) y i) y))), (6, .int (nI ((26 * i) + 8))), (7, .int (nI (p_nx (p_way (n - 1) y i) y))), (5, .int (nI 1)), (0, .ref (b 0)), (1, .int (nI y)), (3, .int (nI (26 * i))), (4, .int (bI g2))]) hx hb dX3_check_222 rfl hl (by decide) rfl (fun ls hl => ?_)
                          refine lv_iinc (v := nI (26 * i + 26)) (lv' := [(3, .int (nI (26 * i + 26))), (2, .int (nI (p_nx (p_way (n - 1) y i) y))), (6, .int (nI ((26 * i) + 8))), (7, .int (nI (p_nx (p_way (n - 1) y i) y))), (5, .int (nI 1)), (0, .ref (b 0)), (1, .int (nI y)), (4, .int (bI g2))]) hx hb dX3_check_223 hl (k := 6) rfl (inc_N (26 * i) 26) (by decide) rfl (fun ls hl => ?_)
                          refine lv_goto (tgt := 33) hx hb dX3_check_226 (by decide) ?_
                          exact ih1 (i + 1) true g2 (p_nx (p_way (n - 1) y i) y) (nI ((26 * i) + 8)) hu_18 gu_16 xu_18 (va_cpy gp ee (26 * i) 0 26) (Or.inl ⟨rfl, by rcases Nat.lt_or_ge i K with q1 | q1; omega; have := hK0.2; rw [show K = i by omega] at this; omega, rfl⟩) hgn (fun _ => Or.inr ⟨by omega, ((26 * i) + 8), rfl, by omega, fun j => by show _ = gp (26 * i + (if p_by (p_way (n - 1) y i) y then 8 else 0) + j); rw [if_pos (by_T (by omega) c176 c207)]; first | done | rfl⟩) (by omega) (by omega) _ _ _ hP hD hS (lv_sub hl [5, 6, 1, 0, 7, 4, 2] rfl)
                    · refine lv_iload hx hb dX3_check_121 (lv_at hl 4 rfl) ?_
                      refine lv_if_eq (tgt := 174) hx hb dX3_check_123 (by decide) (fun c123 => ?_) (fun c123 => ?_)
                      · have hgn : g2 = allN (p_cc gd gp (n - 1) y pn) (i + 1) := by
                          rw [allN, ← hbg, Bool.true_and, p_cc, decide_eq_true (by omega), Bool.true_and, p_chk]
                          have q2 := bI_z c123
                          rw [q2] at hg2 ⊢; exact (allN_mono hj hg2.symm).symm
                        clear hd0 hd1
                        refine lv_iload_n hx hb dX3_check_174 rfl (lv_at hl 2 rfl) ?_
                        refine lv_iload_n hx hb dX3_check_175 rfl (lv_at hl 1 rfl) ?_
                        refine cmp_le hx hb (p_way (n - 1) y i) y 183 (by omega) (by omega) dX3_check_176 (by decide) (fun c176 => ?_) (fun c176 => ?_)
                        · refine lv_iconst (v := nI 0) hx hb dX3_check_183 (by decide) ?_
                          refine lv_istore (lv' := [(5, .int (nI 0)), (0, .ref (b 0)), (1, .int (nI y)), (2, .int (nI (p_way (n - 1) y i))), (3, .int (nI (26 * i))), (4, .int (bI g2)), (6, .int wq), (7, .int (nI j))]) hx hb dX3_check_184 hl (by decide) rfl (fun ls hl => ?_)
                          refine lv_iload hx hb dX3_check_186 (lv_at hl 0 rfl) ?_
                          refine if0_eq hx hb 0 223 (by omega) dX3_check_188 (by decide) (fun _ => ?_) (fun q0 => absurd q0 (by decide))
                          refine lv_iinc (v := nI (26 * i + 26)) (lv' := [(3, .int (nI (26 * i + 26))), (5, .int (nI 0)), (0, .ref (b 0)), (1, .int (nI y)), (2, .int (nI (p_way (n - 1) y i))), (4, .int (bI g2)), (6, .int wq), (7, .int (nI j))]) hx hb dX3_check_223 hl (k := 4) rfl (inc_N (26 * i) 26) (by decide) rfl (fun ls hl => ?_)
                          refine lv_goto (tgt := 33) hx hb dX3_check_226 (by decide) ?_
                          exact ih1 (i + 1) false g2 (p_way (n - 1) y i) wq hu_18 gu_16 xu_18 (va_cpy gp ee (26 * i) 0 26) (Or.inr ⟨rfl, by have : K = i := Nat.le_antisymm (Nat.le_of_not_lt fun z => by have := hK0.1 i z; omega) hiK; omega⟩) hgn (fun z => absurd z (by decide)) (by omega) (by omega) _ _ _ hP hD hS (lv_sub hl [2, 3, 4, 0, 5, 1, 6] rfl)
                        · refine lv_iconst (v := nI 1) hx hb dX3_check_179 (by decide) ?_
                          refine lv_goto (tgt := 184) hx hb dX3_check_180 (by decide) ?_
                          refine lv_istore (lv' := [(5, .int (nI 1)), (0, .ref (b 0)), (1, .int (nI y)), (2, .int (nI (p_way (n - 1) y i))), (3, .int (nI (26 * i))), (4, .int (bI g2)), (6, .int wq), (7, .int (nI j))]) hx hb dX3_check_184 hl (by decide) rfl (fun ls hl => ?_)
                          refine lv_iload hx hb dX3_check_186 (lv_at hl 0 rfl) ?_
                          refine if0_eq hx hb 1 223 (by omega) dX3_check_188 (by decide) (fun q0 => absurd q0 (by decide)) (fun _ => ?_)
                          refine lv_aload_n hx hb dX3_check_191 rfl (lv_at hl 1 rfl) ?_
                          refine lv_iload_n hx hb dX3_check_192 rfl (lv_at hl 3 rfl) ?_
                          refine lv_iload_n hx hb dX3_check_193 rfl (lv_at hl 2 rfl) ?_
                          refine call_Vi (wr := ([] : va_W)) [.int (nI (p_way (n - 1) y i)), .int (nI y)] [] ⟨hx, hb, hml, hown, hts⟩ hK hX hA hP hD hS (m_next l G _ b gc gd gw gf gp ga gb hu_18 gu_16 xu_18 (va_cpy gp ee (26 * i) 0 26) n k z t kn pl lf pn (p_way (n - 1) y i) y (by omega) (by omega) (by omega) (by omega) (by omega) (by omega) (by omega) hga hgb (by omega) (by omega)) (cwV 2 hts gX3_check_X3_next rfl rfl rfl (by decide +kernel) ⟨Nat.le_of_ble_eq_true rfl, Nat.le_of_ble_eq_true rfl⟩) 3 0 rfl rfl rfl [0, 1, 2, 3, 4, 5, 6, 7, 8, 9, 10, 11] [] rfl rfl (by decide) (by decide) (by decide) rfl hl.1 (Nat.le_of_ble_eq_true rfl) dX3_check_194 ⟨Nat.zero_le _, Nat.zero_le _⟩ (fun r_26 u H locs hw hP hD hS => ?_)
                          obtain rfl := hw
                          have hP : va_P G.1 vwCl (wMd G b gc gd gw gf gp ga gb hu_18 gu_16 xu_18 (va_cpy gp ee (26 * i) 0 26) n k z t kn pl lf pn) H := hP
                          have hD : va_D A (wMd G b gc gd gw gf gp ga gb hu_18 gu_16 xu_18 (va_cpy gp ee (26 * i) 0 26) n k z t kn pl lf pn) := hD
                          refine lv_istore (lv' := [(7, .int (nI (p_nx (p_way (n - 1) y i) y))), (5, .int (nI 1)), (0, .ref (b 0)), (1, .int (nI y)), (2, .int (nI (p_way (n - 1) y i))), (3, .int (nI (26 * i))), (4, .int (bI g2)), (6, .int wq)]) hx hb dX3_check_197 hl (by decide) rfl (fun ls hl => ?_)
                          refine lv_iload hx hb dX3_check_199 (lv_at hl 0 rfl) ?_
                          refine lv_iload_n hx hb dX3_check_201 rfl (lv_at hl 4 rfl) ?_
                          refine lv_iload_n hx hb dX3_check_202 rfl (lv_at hl 4 rfl) ?_
                          refine call_Si (wr := ([(b 0, .inr (3, [.ref (b 1), .int (nI n), .ref (b 2), .ref (b 3), .int (nI k), .int (nI z), .int (nI t), .int kn, .ref (b 4), .int (nI pl), .int (nI lf), .ref (b 5), .int (nI pn), .ref (b 6), .ref (b 7), .ref (b 8), .ref (b 9), .ref (b 10), .ref (b 11)])), (b 1, .inl (G.2.2.1, 2040, .inl gc)), (b 2, .inl (G.2.2.1, 8, .inl gd)), (b 3, .inl (G.2.2.1, 8, .inl gw)), (b 4, .inl (G.2.2.2, 1024, .inl gf)), (b 5, .inl (G.2.2.1, 1600, .inl gp)), (b 6, .inl (G.2.2.1, 64, .inl ga)), (b 7, .inl (G.2.2.1, 8, .inl gb)), (b 8, .inl (G.2.2.1, 8, .inl hu_18)), (b 9, .inl (G.2.2.1, 8, .inl gu_16)), (b 10, .inl (G.2.2.1, 64, .inl xu_18)), (b 11, .inl (G.2.2.1, 26, .inl (va_cpy gp ee (26 * i) 0 26)))] : va_W)) [.int (nI (p_way (n - 1) y i))] [.int (nI (p_way (n - 1) y i)), .int (nI (p_nx (p_way (n - 1) y i) y))] ⟨hx, hb, hml, hown, hts⟩ hK hX hA hP hD hS (m_lowest l G _ (nI (p_way (n - 1) y i))) (va_cwS 1 hts gX3_check_X3_lowest rfl rfl rfl (by decide +kernel) ⟨Nat.le_of_ble_eq_true rfl, Nat.le_of_ble_eq_true rfl⟩) [] [0, 1, 2, 3, 4, 5, 6, 7, 8, 9, 10, 11] rfl rfl (by decide) (by decide) (by decide) rfl hl.1 (Nat.le_of_ble_eq_true rfl) dX3_check_203 ⟨Nat.zero_le _, Nat.zero_le _⟩ (fun r_27 u H locs hw hP hD hS => ?_)
                          obtain rfl := hw
                          have hP : va_P G.1 vwCl (wMd G b gc gd gw gf gp ga gb hu_18 gu_16 xu_18 (va_cpy gp ee (26 * i) 0 26) n k z t kn pl lf pn) H := hP
                          have hD : va_D A (wMd G b gc gd gw gf gp ga gb hu_18 gu_16 xu_18 (va_cpy gp ee (26 * i) 0 26) n k z t kn pl lf pn) := hD
                          refine lv_isub hx hb dX3_check_206 ?_
                          refine top_i (nI (p_sk (p_way (n - 1) y i))) (sk_eq _ (by omega)) ?_
                          have hskl := sk_lt (p_way (n - 1) y i) (by omega) (by omega)
                          have hnxl := nx_lt (x := p_way (n - 1) y i) (e := y) (by omega) c176
                          refine cmp_ne hx hb (p_nx (p_way (n - 1) y i) y) (p_sk (p_way (n - 1) y i)) 217 (by omega) (by omega) dX3_check_207 (by decide) (fun c207 => ?_) (fun c207 => ?_)
                          · refine lv_iload_n hx hb dX3_check_217 rfl (lv_at hl 5 rfl) ?_
                            refine lv_istore (lv' := [(6, .int (nI (26 * i))), (7, .int (nI (p_nx (p_way (n - 1) y i) y))), (5, .int (nI 1)), (0, .ref (b 0)), (1, .int (nI y)), (2, .int (nI (p_way (n - 1) y i))), (3, .int (nI (26 * i))), (4, .int (bI g2))]) hx hb dX3_check_218 hl (by decide) rfl (fun ls hl => ?_)
                            refine lv_iload hx hb dX3_check_220 (lv_at hl 1 rfl) ?_
                            refine lv_istore_n (lv' := [(2, .int (nI (p_nx (p_way (n - 1) y i) y))), (6, .int (nI (26 * i))), (7, .int (nI (p_nx (p_way (n - 1) y i) y))), (5, .int (nI 1)), (0, .ref (b 0)), (1, .int (nI y)), (3, .int (nI (26 * i))), (4, .int (bI g2))]) hx hb dX3_check_222 rfl hl (by decide) rfl (fun ls hl => ?_)
                            refine lv_iinc (v := nI (26 * i + 26)) (lv' := [(3, .int (nI (26 * i + 26))), (2, .int (nI (p_nx (p_way (n - 1) y i) y))), (6, .int (nI (26 * i))), (7, .int (nI (p_nx (p_way (n - 1) y i) y))), (5, .int (nI 1)), (0, .ref (b 0)), (1, .int (nI y)), (4, .int (bI g2))]) hx hb dX3_check_223 hl (k := 6) rfl (inc_N (26 * i) 26) (by decide) rfl (fun ls hl => ?_)
                            refine lv_goto (tgt := 33) hx hb dX3_check_226 (by decide) ?_
                            exact ih1 (i + 1) true g2 (p_nx (p_way (n - 1) y i) y) (nI (26 * i)) hu_18 gu_16 xu_18 (va_cpy gp ee (26 * i) 0 26) (Or.inl ⟨rfl, by rcases Nat.lt_or_ge i K with q1 | q1; omega; have := hK0.2; rw [show K = i by omega] at this; omega, rfl⟩) hgn (fun _ => Or.inr ⟨by omega, (26 * i), rfl, by omega, fun j => by show _ = gp (26 * i + (if p_by (p_way (n - 1) y i) y then 8 else 0) + j); rw [if_neg (by_F c176 c207)]; first | done | rfl⟩) (by omega) (by omega) _ _ _ hP hD hS (lv_sub hl [5, 6, 1, 0, 7, 4, 2] rfl)
                          · refine lv_iload_n hx hb dX3_check_210 rfl (lv_at hl 5 rfl) ?_
                            refine lv_bipush (v := nI 8) hx hb dX3_check_211 (by decide) ?_
                            refine ad_N hx hb (26 * i) 8 dX3_check_213 ?_
                            refine lv_goto (tgt := 218) hx hb dX3_check_214 (by decide) ?_
                            refine lv_istore (lv' := [(6, .int (nI ((26 * i) + 8))), (7, .int (nI (p_nx (p_way (n - 1) y i) y))), (5, .int (nI 1)), (0, .ref (b 0)), (1, .int (nI y)), (2, .int (nI (p_way (n - 1) y i))), (3, .int (nI (26 * i))), (4, .int (bI g2))]) hx hb dX3_check_218 hl (by decide) rfl (fun ls hl => ?_)
                            refine lv_iload hx hb dX3_check_220 (lv_at hl 1 rfl) ?_
                            refine lv_istore_n (lv' := [(2, .int (nI (p_nx (p_way (n - 1) y i) y))), (6, .int (nI ((26 * i) + 8))), (7, .int (nI (p_nx (p_way (n - 1) y i) y))), (5, .int (nI 1)), (0, .ref (b 0)), (1, .int (nI y)), (3, .int (nI (26 * i))), (4, .int (bI g2))]) hx hb dX3_check_222 rfl hl (by decide) rfl (fun ls hl => ?_)
                            refine lv_iinc (v := nI (26 * i + 26)) (lv' := [(3, .int (nI (26 * i + 26))), (2, .int (nI (p_nx (p_way (n - 1) y i) y))), (6, .int (nI ((26 * i) + 8))), (7, .int (nI (p_nx (p_way (n - 1) y i) y))), (5, .int (nI 1)), (0, .ref (b 0)), (1, .int (nI y)), (4, .int (bI g2))]) hx hb dX3_check_223 hl (k := 6) rfl (inc_N (26 * i) 26) (by decide) rfl (fun ls hl => ?_)
                            refine lv_goto (tgt := 33) hx hb dX3_check_226 (by decide) ?_
                            exact ih1 (i + 1) true g2 (p_nx (p_way (n - 1) y i) y) (nI ((26 * i) + 8)) hu_18 gu_16 xu_18 (va_cpy gp ee (26 * i) 0 26) (Or.inl ⟨rfl, by rcases Nat.lt_or_ge i K with q1 | q1; omega; have := hK0.2; rw [show K = i by omega] at this; omega, rfl⟩) hgn (fun _ => Or.inr ⟨by omega, ((26 * i) + 8), rfl, by omega, fun j => by show _ = gp (26 * i + (if p_by (p_way (n - 1) y i) y then 8 else 0) + j); rw [if_pos (by_T (by omega) c176 c207)]; first | done | rfl⟩) (by omega) (by omega) _ _ _ hP hD hS (lv_sub hl [5, 6, 1, 0, 7, 4, 2] rfl)
                      · refine lv_aload_n hx hb dX3_check_126 rfl (lv_at hl 0 rfl) ?_
                        refine va_get (D := G.1) (ci := 3) (v := .ref (b 8)) (C := RX3) (T := TX3) (N := 19) hx hb hts hiX3 hown hK hP 0 rfl rfl 15 (by decide) lk36 (fun _ h9 => h9) rfl dX3_check_127 ?_
                        refine lv_iload hx hb dX3_check_130 (lv_at hl 7 rfl) ?_
                        refine rd_i hx hb hK hP 8 rfl j (by omega) (by omega) dX3_check_132 ?_
                        refine lv_iload hx hb dX3_check_133 (lv_at hl 6 rfl) ?_
                        refine ifz_ge hx hb wq 148 dX3_check_135 (by decide) (fun c135 => ?_) (fun c135 => ?_)
                        · obtain ⟨da, rfl, hda2, hda⟩ := hd1 c135
                          refine lv_aload_n hx hb dX3_check_148 rfl (lv_at hl 0 rfl) ?_
                          refine va_get (D := G.1) (ci := 3) (v := .ref (b 5)) (C := RX3) (T := TX3) (N := 19) hx hb hts hiX3 hown hK hP 0 rfl rfl 11 (by decide) lk27 (fun _ h9 => h9) rfl dX3_check_149 ?_
                          refine lv_iload hx hb dX3_check_152 (lv_at hl 6 rfl) ?_
                          refine lv_iload hx hb dX3_check_154 (lv_at hl 7 rfl) ?_
                          refine ad_N hx hb da j dX3_check_156 ?_
                          refine rd_i hx hb hK hP 5 rfl (da + j) (by omega) (by omega) dX3_check_157 ?_
                          refine lv_icmp_ne (tgt := 165) hx hb dX3_check_158 (by decide) (fun c158 => ?_) (fun c158 => ?_)
                          · refine lv_iconst (v := nI 0) hx hb dX3_check_165 (by decide) ?_
                            refine lv_istore (lv' := [(4, .int (nI 0)), (0, .ref (b 0)), (1, .int (nI y)), (2, .int (nI (p_way (n - 1) y i))), (3, .int (nI (26 * i))), (5, .int (bI true)), (6, .int (nI da)), (7, .int (nI j))]) hx hb dX3_check_166 hl (by decide) rfl (fun ls hl => ?_)
                            refine lv_iinc (v := nI (j + 1)) (lv' := [(7, .int (nI (j + 1))), (4, .int (nI 0)), (0, .ref (b 0)), (1, .int (nI y)), (2, .int (nI (p_way (n - 1) y i))), (3, .int (nI (26 * i))), (5, .int (bI true)), (6, .int (nI da))]) hx hb dX3_check_168 hl (k := 7) rfl (inc_N j 1) (by decide) rfl (fun ls hl => ?_)
                            refine lv_goto (tgt := 114) hx hb dX3_check_171 (by decide) ?_
                            exact ih3 (j + 1) false (by omega) (by rw [allN, ← hg2, bI_n c123]; exact (decide_eq_false (fun z => c158 (by rw [hqh j (by omega), ← z]; exact (hda j).symm))).symm) (by omega) _ _ _ hP hD hS (lv_sub hl [2, 3, 4, 5, 1, 6, 7, 0] rfl)
                          · refine lv_iconst (v := nI 1) hx hb dX3_check_161 (by decide) ?_
                            refine lv_goto (tgt := 166) hx hb dX3_check_162 (by decide) ?_
                            refine lv_istore (lv' := [(4, .int (nI 1)), (0, .ref (b 0)), (1, .int (nI y)), (2, .int (nI (p_way (n - 1) y i))), (3, .int (nI (26 * i))), (5, .int (bI true)), (6, .int (nI da)), (7, .int (nI j))]) hx hb dX3_check_166 hl (by decide) rfl (fun ls hl => ?_)
                            refine lv_iinc (v := nI (j + 1)) (lv' := [(7, .int (nI (j + 1))), (4, .int (nI 1)), (0, .ref (b 0)), (1, .int (nI y)), (2, .int (nI (p_way (n - 1) y i))), (3, .int (nI (26 * i))), (5, .int (bI true)), (6, .int (nI da))]) hx hb dX3_check_168 hl (k := 7) rfl (inc_N j 1) (by decide) rfl (fun ls hl => ?_)
                            refine lv_goto (tgt := 114) hx hb dX3_check_171 (by decide) ?_
                            exact ih3 (j + 1) true (by omega) (by rw [allN, ← hg2, bI_n c123]; exact (decide_eq_true (by rw [← hda j, ← hqh j (by omega)]; exact c158.symm)).symm) (by omega) _ _ _ hP hD hS (lv_sub hl [2, 3, 4, 5, 1, 6, 7, 0] rfl)
                        · refine lv_aload_n hx hb dX3_check_138 rfl (lv_at hl 0 rfl) ?_
                          refine va_get (D := G.1) (ci := 3) (v := .ref (b 2)) (C := RX3) (T := TX3) (N := 19) hx hb hts hiX3 hown hK hP 0 rfl rfl 2 (by decide) lk13 (fun _ h9 => h9) rfl dX3_check_139 ?_
                          refine lv_iload hx hb dX3_check_142 (lv_at hl 7 rfl) ?_
                          refine rd_i hx hb hK hP 2 rfl j (by omega) (by omega) dX3_check_144 ?_
                          refine lv_goto (tgt := 158) hx hb dX3_check_145 (by decide) ?_
                          refine lv_icmp_ne (tgt := 165) hx hb dX3_check_158 (by decide) (fun c158 => ?_) (fun c158 => ?_)
                          · refine lv_iconst (v := nI 0) hx hb dX3_check_165 (by decide) ?_
                            refine lv_istore (lv' := [(4, .int (nI 0)), (0, .ref (b 0)), (1, .int (nI y)), (2, .int (nI (p_way (n - 1) y i))), (3, .int (nI (26 * i))), (5, .int (bI true)), (6, .int wq), (7, .int (nI j))]) hx hb dX3_check_166 hl (by decide) rfl (fun ls hl => ?_)
                            refine lv_iinc (v := nI (j + 1)) (lv' := [(7, .int (nI (j + 1))), (4, .int (nI 0)), (0, .ref (b 0)), (1, .int (nI y)), (2, .int (nI (p_way (n - 1) y i))), (3, .int (nI (26 * i))), (5, .int (bI true)), (6, .int wq)]) hx hb dX3_check_168 hl (k := 7) rfl (inc_N j 1) (by decide) rfl (fun ls hl => ?_)
                            refine lv_goto (tgt := 114) hx hb dX3_check_171 (by decide) ?_
                            exact ih3 (j + 1) false (by omega) (by rw [allN, ← hg2, bI_n c123]; exact (decide_eq_false (fun z => c158 (by rw [hqh j (by omega), ← z]; exact (hd0 c135 j).symm))).symm) (by omega) _ _ _ hP hD hS (lv_sub hl [2, 3, 4, 5, 1, 6, 7, 0] rfl)
                          · refine lv_iconst (v := nI 1) hx hb dX3_check_161 (by decide) ?_
                            refine lv_goto (tgt := 166) hx hb dX3_check_162 (by decide) ?_
                            refine lv_istore (lv' := [(4, .int (nI 1)), (0, .ref (b 0)), (1, .int (nI y)), (2, .int (nI (p_way (n - 1) y i))), (3, .int (nI (26 * i))), (5, .int (bI true)), (6, .int wq), (7, .int (nI j))]) hx hb dX3_check_166 hl (by decide) rfl (fun ls hl => ?_)
                            refine lv_iinc (v := nI (j + 1)) (lv' := [(7, .int (nI (j + 1))), (4, .int (nI 1)), (0, .ref (b 0)), (1, .int (nI y)), (2, .int (nI (p_way (n - 1) y i))), (3, .int (nI (26 * i))), (5, .int (bI true)), (6, .int wq)]) hx hb dX3_check_168 hl (k := 7) rfl (inc_N j 1) (by decide) rfl (fun ls hl => ?_)
                            refine lv_goto (tgt := 114) hx hb dX3_check_171 (by decide) ?_
                            exact ih3 (j + 1) true (by omega) (by rw [allN, ← hg2, bI_n c123]; exact (decide_eq_true (by rw [← hd0 c135 j, ← hqh j (by omega)]; exact c158.symm)).symm) (by omega) _ _ _ hP hD hS (lv_sub hl [2, 3, 4, 5, 1, 6, 7, 0] rfl)
                · refine lv_iload hx hb dX3_check_71 (lv_at hl 4 rfl) ?_
                  refine if0_eq hx hb 1 98 (by omega) dX3_check_73 (by decide) (fun q0 => absurd q0 (by decide)) (fun _ => ?_)
                  refine lv_aload_n hx hb dX3_check_76 rfl (lv_at hl 0 rfl) ?_
                  refine va_get (D := G.1) (ci := 3) (v := .ref (b 11)) (C := RX3) (T := TX3) (N := 19) hx hb hts hiX3 hown hK hP 0 rfl rfl 18 (by decide) lk45 (fun _ h9 => h9) rfl dX3_check_77 ?_
                  refine lv_iload hx hb dX3_check_80 (lv_at hl 7 rfl) ?_
                  refine lv_aload_n hx hb dX3_check_82 rfl (lv_at hl 0 rfl) ?_
                  refine va_get (D := G.1) (ci := 3) (v := .ref (b 5)) (C := RX3) (T := TX3) (N := 19) hx hb hts hiX3 hown hK hP 0 rfl rfl 11 (by decide) lk27 (fun _ h9 => h9) rfl dX3_check_83 ?_
                  refine lv_iload_n hx hb dX3_check_86 rfl (lv_at hl 3 rfl) ?_
                  refine lv_iload hx hb dX3_check_87 (lv_at hl 7 rfl) ?_
                  refine ad_N hx hb (26 * i) k1 dX3_check_89 ?_
                  refine rd_i hx hb hK hP 5 rfl ((26 * i) + k1) (by omega) (by omega) dX3_check_90 ?_
                  refine wr_i hx hb hK hP hD hS 11 rfl k1 (by omega) (by omega) dX3_check_91 (fun H locs hP hD hS => ?_)
                  have hP : va_P G.1 vwCl (wMd G b gc gd gw gf gp ga gb hh hg xx (upd (va_cpy gp ee (26 * i) 0 k1) k1 (gp ((26 * i) + k1))) n k z t kn pl lf pn) H := hP
                  have hD : va_D A (wMd G b gc gd gw gf gp ga gb hh hg xx (upd (va_cpy gp ee (26 * i) 0 k1) k1 (gp ((26 * i) + k1))) n k z t kn pl lf pn) := hD
                  rw [show upd (va_cpy gp ee (26 * i) 0 k1) k1 (gp (26 * i + k1)) = va_cpy gp ee (26 * i) 0 (k1 + 1) from cpy_sa] at hP hD
                  refine lv_iinc (v := nI (k1 + 1)) (lv' := [(7, .int (nI (k1 + 1))), (0, .ref (b 0)), (1, .int (nI y)), (2, .int (nI (p_way (n - 1) y i))), (3, .int (nI (26 * i))), (4, .int (nI 1)), (5, .int (bI true)), (6, .int wq)]) hx hb dX3_check_92 hl (k := 7) rfl (inc_N k1 1) (by decide) rfl (fun ls hl => ?_)
                  refine lv_goto (tgt := 64) hx hb dX3_check_95 (by decide) ?_
                  exact ih2 (k1 + 1) (by omega) (by omega) _ _ _ hP hD hS (lv_sub hl [1, 2, 3, 4, 5, 6, 7, 0] rfl)
    · refine lv_bipush (v := (-2)) hx hb dX3_check_12 (by decide) ?_
      exact ret 14 _ _ _ (-2) (gh, gg, gx, ge) dX3_check_14 (Or.inl ⟨ok_F (Or.inr c9), rfl⟩) hP hD hS
