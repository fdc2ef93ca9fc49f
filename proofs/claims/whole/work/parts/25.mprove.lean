set_option maxHeartbeats 4000000 in
set_option maxRecDepth 100000 in
theorem m_prove (l : Launch) (G : gG) (sz : Nat) (b : Nat → Nat) (gc gd gw gf gp ga gb gh gg gx ge : Nat → Int32) (n k z t : Nat) (kn : Int32) (pl lf pn : Nat) (x : Int32) (hn : n ≤ 60) (hk : k ≤ 8) (hz : z ≤ 20) (ht : t ≤ 100000) (hpl : pl ≤ 60) (hlf : lf ≤ 6) (hpn : pn ≤ 1560) (hga : ∀ j, j < 64 → ga j = st_K j) (hgb : ∀ j, j < 8 → gb j = st_S j)  : MetI l yX3_prove wsX3_prove ({ frames := 2, cells := 0, slots := 0, locals := 42 } : Room) [.ref (b 0), .int x] G (wMd G b gc gd gw gf gp ga gb gh gg gx ge n k z t kn pl lf pn) sz (fun u : (Nat → Int32) × Nat => wMd G b gc gd gw gf u.1 ga gb gh gg gx ge n k z t kn pl lf u.2) (fun r u => q_prove gc gp n pn x r u.1 u.2) := by
  refine ent_i _ cX3_prove 5 RX3 (by decide) rfl rfl (Nat.le_of_ble_eq_true rfl) ?_
  intro p e s m args below meth c A Q ls hx hb hml hts hown hA hK hX ret hl hP hD hS
  have hl : lv_has ls 5 [(0, .ref (b 0)), (1, .int x)] := hl
  have lk7 := hts (.fieldLink RX3 7 "MinedLedgerModel" "cells" "[I") (by decide +kernel)
  have lk27 := hts (.fieldLink RX3 27 "MinedLedgerModel" "proof" "[I") (by decide +kernel)
  have lk141 := hts (.fieldLink RX3 141 "MinedLedgerModel" "count" "I") (by decide +kernel)
  have lk216 := hts (.fieldLink RX3 216 "MinedLedgerModel" "proofSize" "I") (by decide +kernel)
  have hiX3 : ∀ w ∈ wsX30, w ∈ wsX3_prove := by decide +kernel
  refine lv_iload_n hx hb dX3_prove_0 rfl (lv_at hl 1 rfl) ?_
  refine ifz_lt hx hb x 12 dX3_prove_1 (by decide) (fun c1 => ?_) (fun c1 => ?_)
  · refine lv_bipush (v := (-2)) hx hb dX3_prove_12 (by decide) ?_
    exact ret 14 _ _ _ (-2) (gp, pn) dX3_prove_14 (Or.inl ⟨ok_F (Or.inl c1), rfl, rfl, rfl⟩) hP hD hS
  · refine lv_iload_n hx hb dX3_prove_4 rfl (lv_at hl 1 rfl) ?_
    refine lv_aload_n hx hb dX3_prove_5 rfl (lv_at hl 0 rfl) ?_
    refine va_get (D := G.1) (ci := 3) (v := .int (nI n)) (C := RX3) (T := TX3) (N := 19) hx hb hts hiX3 hown hK hP 0 rfl rfl 1 (by decide) lk141 (fun _ h9 => h9) rfl dX3_prove_6 ?_
    refine cmz_ltzn hx hb x n 15 (by omega) dX3_prove_9 (by decide) (fun c9 => ?_) (fun c9 => ?_)
    · obtain ⟨y, hy, rfl⟩ := in_N (by omega) c1 c9
      obtain ⟨K, hK0⟩ := end_ex (x := n - 1) (e := y) (by omega) (by omega)
      refine lv_aload_n hx hb dX3_prove_15 rfl (lv_at hl 0 rfl) ?_
      refine lv_iconst (v := nI 0) hx hb dX3_prove_16 (by decide) ?_
      refine va_put (D := G.1) (ci := 3) (v := .int (nI 0)) (ty := .int) (C := RX3) (T := TX3) (N := 19) hx hb hts hiX3 tyX3 tyX3_ok nmX3 hown hK hP hD hS 0 rfl rfl 12 (by decide) lk216 (fun _ h9 => h9) rfl (by decide +kernel) rfl rfl (Nat.le_of_ble_eq_true rfl) dX3_prove_17 (fun H locs hP hD hS => ?_)
      have hP : va_P G.1 vwCl (wMd G b gc gd gw gf gp ga gb gh gg gx ge n k z t kn pl lf 0) H := hP
      have hD : va_D A (wMd G b gc gd gw gf gp ga gb gh gg gx ge n k z t kn pl lf 0) := hD
      refine lv_aload_n hx hb dX3_prove_20 rfl (lv_at hl 0 rfl) ?_
      refine va_get (D := G.1) (ci := 3) (v := .int (nI n)) (C := RX3) (T := TX3) (N := 19) hx hb hts hiX3 hown hK hP 0 rfl rfl 1 (by decide) lk141 (fun _ h9 => h9) rfl dX3_prove_21 ?_
      refine lv_iconst (v := nI 1) hx hb dX3_prove_24 (by decide) ?_
      refine su_N hx hb n 1 (by omega) dX3_prove_25 ?_
      refine lv_istore_n (lv' := [(2, .int (nI (n - 1))), (0, .ref (b 0)), (1, .int (nI y))]) hx hb dX3_prove_26 rfl hl (by decide) rfl (fun ls hl => ?_)
      refine lv_iconst (v := nI 1) hx hb dX3_prove_27 (by decide) ?_
      refine lv_istore_n (lv' := [(3, .int (nI 1)), (2, .int (nI (n - 1))), (0, .ref (b 0)), (1, .int (nI y))]) hx hb dX3_prove_28 rfl hl (by decide) rfl (fun ls hl => ?_)
      suffices hloop1 : ∀ (fu1 : Nat) (i : Nat) (bb : Bool) (px : Nat) (pq : Nat → Int32), ((bb = true ∧ i ≤ K ∧ px = p_way (n - 1) y i) ∨ (bb = false ∧ i = K + 1)) → (px ≤ 59) → (∀ a j, a < i → j < 26 → pq (26 * a + j) = gc (34 * p_way (n - 1) y a + j)) → K + 1 - i < fu1 → ∀ (H : Heap) (locs : List Loc) (ls : Array Slot), va_P G.1 vwCl (wMd G b gc gd gw gf pq ga gb gh gg gx ge n k z t kn pl lf (26 * i)) H → va_D A (wMd G b gc gd gw gf pq ga gb gh gg gx ge n k z t kn pl lf (26 * i)) → va_S A s.heap H locs → lv_has ls 5 [(0, .ref (b 0)), (1, .int (nI y)), (2, .int (nI px)), (3, .int (bI bb))] → W p l e ({ frames := 2, cells := 0, slots := 0, locals := 42 } : Room) s m args below meth c H locs 0 0 Q (F0 m 29 ls []) from hloop1 _ 0 true (n - 1) gp (Or.inl ⟨rfl, Nat.zero_le _, rfl⟩) (by omega) (fun a j h _ => absurd h (Nat.not_lt_zero a)) (Nat.lt_succ_self _) _ _ _ hP hD hS (lv_sub hl [2, 3, 1, 0] rfl)
      clear hP hD hS hl
      intro fu1
      induction fu1 with
      | zero => intro i bb px pq hI hpx hpq hfu; exact absurd hfu (Nat.not_lt_zero _)
      | succ fu1 ih1 =>
        intro i bb px pq hI hpx hpq hfu1 H locs ls hP hD hS hl
        refine lv_iload_n hx hb dX3_prove_29 rfl (lv_at hl 3 rfl) ?_
        refine lv_if_eq (tgt := 109) hx hb dX3_prove_30 (by decide) (fun c30 => ?_) (fun c30 => ?_)
        · refine lv_aload_n hx hb dX3_prove_109 rfl (lv_at hl 0 rfl) ?_
          refine va_get (D := G.1) (ci := 3) (v := .int (nI (26 * i))) (C := RX3) (T := TX3) (N := 19) hx hb hts hiX3 hown hK hP 0 rfl rfl 12 (by decide) lk216 (fun _ h9 => h9) rfl dX3_prove_110 ?_
          have hiK : i = K + 1 := by
            rcases hI with h | h
            · rw [h.1] at c30; exact absurd c30 (by decide)
            · exact h.2
          subst hiK
          exact ret 113 _ _ _ (nI (26 * (K + 1))) (pq, 26 * (K + 1)) dX3_prove_113 (Or.inr ⟨y, K, hy, rfl, hK0, rfl, rfl, fun a j ha hj => hpq a j (by omega) hj⟩) hP hD hS
        · obtain ⟨hiK, rfl⟩ : i ≤ K ∧ px = p_way (n - 1) y i := by
            rcases hI with h | h
            · exact h.2
            · rw [h.1] at c30; exact absurd rfl c30
          have hwl := end_le (i := i) hn hK0 hiK
          refine lv_iconst (v := nI 0) hx hb dX3_prove_33 (by decide) ?_
          refine lv_istore (lv' := [(4, .int (nI 0)), (0, .ref (b 0)), (1, .int (nI y)), (2, .int (nI (p_way (n - 1) y i))), (3, .int (bI bb))]) hx hb dX3_prove_34 hl (by decide) rfl (fun ls hl => ?_)
          have hP : va_P G.1 vwCl (wMd G b gc gd gw gf (va_cpy gc pq (34 * p_way (n - 1) y i) (26 * i) 0) ga gb gh gg gx ge n k z t kn pl lf (26 * i)) H := by rw [cpy_n0]; exact hP
          have hD : va_D A (wMd G b gc gd gw gf (va_cpy gc pq (34 * p_way (n - 1) y i) (26 * i) 0) ga gb gh gg gx ge n k z t kn pl lf (26 * i)) := by rw [cpy_n0]; exact hD
          suffices hloop2 : ∀ (fu2 : Nat) (j : Nat), (j ≤ 26) → 26 - j < fu2 → ∀ (H : Heap) (locs : List Loc) (ls : Array Slot), va_P G.1 vwCl (wMd G b gc gd gw gf (va_cpy gc pq (34 * p_way (n - 1) y i) (26 * i) j) ga gb gh gg gx ge n k z t kn pl lf (26 * i + j)) H → va_D A (wMd G b gc gd gw gf (va_cpy gc pq (34 * p_way (n - 1) y i) (26 * i) j) ga gb gh gg gx ge n k z t kn pl lf (26 * i + j)) → va_S A s.heap H locs → lv_has ls 5 [(0, .ref (b 0)), (1, .int (nI y)), (2, .int (nI (p_way (n - 1) y i))), (3, .int (bI bb)), (4, .int (nI j))] → W p l e ({ frames := 2, cells := 0, slots := 0, locals := 42 } : Room) s m args below meth c H locs 0 0 Q (F0 m 36 ls []) from hloop2 _ 0 (Nat.zero_le _) (Nat.lt_succ_self _) _ _ _ hP hD hS (lv_sub hl [1, 2, 3, 4, 0] rfl)
          clear hP hD hS hl
          intro fu2
          induction fu2 with
          | zero => intro j hj hfu; exact absurd hfu (Nat.not_lt_zero _)
          | succ fu2 ih2 =>
            intro j hj hfu2 H locs ls hP hD hS hl
            refine lv_iload hx hb dX3_prove_36 (lv_at hl 4 rfl) ?_
            refine lv_bipush (v := nI 26) hx hb dX3_prove_38 (by decide) ?_
            refine cmp_ge hx hb j 26 80 (by omega) (by omega) dX3_prove_40 (by decide) (fun c40 => ?_) (fun c40 => ?_)
            · have e80 : j = 26 := by omega
              subst e80
              refine lv_iload_n hx hb dX3_prove_80 rfl (lv_at hl 2 rfl) ?_
              refine lv_iload_n hx hb dX3_prove_81 rfl (lv_at hl 1 rfl) ?_
              refine cmp_le hx hb (p_way (n - 1) y i) y 89 (by omega) (by omega) dX3_prove_82 (by decide) (fun c82 => ?_) (fun c82 => ?_)
              · refine lv_iconst (v := nI 0) hx hb dX3_prove_89 (by decide) ?_
                refine lv_istore_n (lv' := [(3, .int (nI 0)), (0, .ref (b 0)), (1, .int (nI y)), (2, .int (nI (p_way (n - 1) y i))), (4, .int (nI 26))]) hx hb dX3_prove_90 rfl hl (by decide) rfl (fun ls hl => ?_)
                refine lv_iload_n hx hb dX3_prove_91 rfl (lv_at hl 0 rfl) ?_
                refine if0_eq hx hb 0 104 (by omega) dX3_prove_92 (by decide) (fun c92 => ?_) (fun c92 => ?_)
                · refine lv_iload_n hx hb dX3_prove_104 rfl (lv_at hl 3 rfl) ?_
                  refine lv_istore_n (lv' := [(2, .int (nI (p_way (n - 1) y i))), (3, .int (nI 0)), (0, .ref (b 0)), (1, .int (nI y)), (4, .int (nI 26))]) hx hb dX3_prove_105 rfl hl (by decide) rfl (fun ls hl => ?_)
                  refine lv_goto (tgt := 29) hx hb dX3_prove_106 (by decide) ?_
                  have hP : va_P G.1 vwCl (wMd G b gc gd gw gf (va_cpy gc pq (34 * p_way (n - 1) y i) (26 * i) 26) ga gb gh gg gx ge n k z t kn pl lf (26 * (i + 1))) H := hP
                  have hD : va_D A (wMd G b gc gd gw gf (va_cpy gc pq (34 * p_way (n - 1) y i) (26 * i) 26) ga gb gh gg gx ge n k z t kn pl lf (26 * (i + 1))) := hD
                  exact ih1 (i + 1) false (p_way (n - 1) y i) (va_cpy gc pq (34 * p_way (n - 1) y i) (26 * i) 26) (Or.inr ⟨rfl, by have : K = i := Nat.le_antisymm (Nat.le_of_not_lt fun z => by have := hK0.1 i z; omega) hiK; omega⟩) (by omega) (fun a j ha hj => by rcases Nat.lt_or_ge a i with q1 | q1; rw [pk_cpy_out (by omega)]; exact hpq a j q1 hj; rw [show a = i by omega, pk_cpy_in (by omega) (by omega)]; congr 1; omega) (by omega) _ _ _ hP hD hS (lv_sub hl [2, 3, 0, 1] rfl)
                · exact absurd c92 (by decide)
              · refine lv_iconst (v := nI 1) hx hb dX3_prove_85 (by decide) ?_
                refine lv_goto (tgt := 90) hx hb dX3_prove_86 (by decide) ?_
                refine lv_istore_n (lv' := [(3, .int (nI 1)), (0, .ref (b 0)), (1, .int (nI y)), (2, .int (nI (p_way (n - 1) y i))), (4, .int (nI 26))]) hx hb dX3_prove_90 rfl hl (by decide) rfl (fun ls hl => ?_)
                refine lv_iload_n hx hb dX3_prove_91 rfl (lv_at hl 0 rfl) ?_
                refine if0_eq hx hb 1 104 (by omega) dX3_prove_92 (by decide) (fun c92 => ?_) (fun c92 => ?_)
                · exact absurd c92 (by decide)
                · refine lv_aload_n hx hb dX3_prove_95 rfl (lv_at hl 1 rfl) ?_
                  refine lv_iload_n hx hb dX3_prove_96 rfl (lv_at hl 3 rfl) ?_
                  refine lv_iload_n hx hb dX3_prove_97 rfl (lv_at hl 2 rfl) ?_
                  refine call_Vi (wr := ([] : va_W)) [.int (nI (p_way (n - 1) y i)), .int (nI y)] [] ⟨hx, hb, hml, hown, hts⟩ hK hX hA hP hD hS (m_next l G _ b gc gd gw gf (va_cpy gc pq (34 * p_way (n - 1) y i) (26 * i) 26) ga gb gh gg gx ge n k z t kn pl lf (26 * i + 26) (p_way (n - 1) y i) y (by omega) (by omega) (by omega) (by omega) (by omega) (by omega) (by omega) hga hgb (by omega) (by omega)) (cwV 2 hts gX3_prove_X3_next rfl rfl rfl (by decide +kernel) ⟨Nat.le_of_ble_eq_true rfl, Nat.le_of_ble_eq_true rfl⟩) 3 0 rfl rfl rfl [0, 1, 2, 3, 4, 5, 6, 7, 8, 9, 10, 11] [] rfl rfl (by decide) (by decide) (by decide) rfl hl.1 (Nat.le_of_ble_eq_true rfl) dX3_prove_98 ⟨Nat.zero_le _, Nat.zero_le _⟩ (fun r_8 u H locs hw hP hD hS => ?_)
                  obtain rfl := hw
                  have hP : va_P G.1 vwCl (wMd G b gc gd gw gf (va_cpy gc pq (34 * p_way (n - 1) y i) (26 * i) 26) ga gb gh gg gx ge n k z t kn pl lf (26 * i + 26)) H := hP
                  have hD : va_D A (wMd G b gc gd gw gf (va_cpy gc pq (34 * p_way (n - 1) y i) (26 * i) 26) ga gb gh gg gx ge n k z t kn pl lf (26 * i + 26)) := hD
                  refine lv_goto (tgt := 105) hx hb dX3_prove_101 (by decide) ?_
                  refine lv_istore_n (lv' := [(2, .int (nI (p_nx (p_way (n - 1) y i) y))), (3, .int (nI 1)), (0, .ref (b 0)), (1, .int (nI y)), (4, .int (nI 26))]) hx hb dX3_prove_105 rfl hl (by decide) rfl (fun ls hl => ?_)
                  refine lv_goto (tgt := 29) hx hb dX3_prove_106 (by decide) ?_
                  have hP : va_P G.1 vwCl (wMd G b gc gd gw gf (va_cpy gc pq (34 * p_way (n - 1) y i) (26 * i) 26) ga gb gh gg gx ge n k z t kn pl lf (26 * (i + 1))) H := hP
                  have hD : va_D A (wMd G b gc gd gw gf (va_cpy gc pq (34 * p_way (n - 1) y i) (26 * i) 26) ga gb gh gg gx ge n k z t kn pl lf (26 * (i + 1))) := hD
                  exact ih1 (i + 1) true (p_nx (p_way (n - 1) y i) y) (va_cpy gc pq (34 * p_way (n - 1) y i) (26 * i) 26) (Or.inl ⟨rfl, by rcases Nat.lt_or_ge i K with q1 | q1; omega; have := hK0.2; rw [show K = i by omega] at this; omega, rfl⟩) (by have := nx_lt (x := p_way (n - 1) y i) (e := y) (by omega) c82; omega) (fun a j ha hj => by rcases Nat.lt_or_ge a i with q1 | q1; rw [pk_cpy_out (by omega)]; exact hpq a j q1 hj; rw [show a = i by omega, pk_cpy_in (by omega) (by omega)]; congr 1; omega) (by omega) _ _ _ hP hD hS (lv_sub hl [2, 3, 0, 1] rfl)
            · refine lv_aload_n hx hb dX3_prove_43 rfl (lv_at hl 0 rfl) ?_
              refine va_get (D := G.1) (ci := 3) (v := .ref (b 5)) (C := RX3) (T := TX3) (N := 19) hx hb hts hiX3 hown hK hP 0 rfl rfl 11 (by decide) lk27 (fun _ h9 => h9) rfl dX3_prove_44 ?_
              refine lv_aload_n hx hb dX3_prove_47 rfl (lv_at hl 0 rfl) ?_
              refine va_get (D := G.1) (ci := 3) (v := .int (nI (26 * i + j))) (C := RX3) (T := TX3) (N := 19) hx hb hts hiX3 hown hK hP 0 rfl rfl 12 (by decide) lk216 (fun _ h9 => h9) rfl dX3_prove_48 ?_
              refine lv_aload_n hx hb dX3_prove_51 rfl (lv_at hl 0 rfl) ?_
              refine va_get (D := G.1) (ci := 3) (v := .ref (b 1)) (C := RX3) (T := TX3) (N := 19) hx hb hts hiX3 hown hK hP 0 rfl rfl 0 (by decide) lk7 (fun _ h9 => h9) rfl dX3_prove_52 ?_
              refine lv_bipush (v := nI 34) hx hb dX3_prove_55 (by decide) ?_
              refine lv_iload_n hx hb dX3_prove_57 rfl (lv_at hl 2 rfl) ?_
              refine mu_N hx hb 34 (p_way (n - 1) y i) dX3_prove_58 ?_
              refine lv_iload hx hb dX3_prove_59 (lv_at hl 4 rfl) ?_
              refine ad_N hx hb (34 * (p_way (n - 1) y i)) j dX3_prove_61 ?_
              refine rd_i hx hb hK hP 1 rfl ((34 * (p_way (n - 1) y i)) + j) (by omega) (by omega) dX3_prove_62 ?_
              refine wr_i hx hb hK hP hD hS 5 rfl (26 * i + j) (by omega) (by omega) dX3_prove_63 (fun H locs hP hD hS => ?_)
              have hP : va_P G.1 vwCl (wMd G b gc gd gw gf (upd (va_cpy gc pq (34 * p_way (n - 1) y i) (26 * i) j) (26 * i + j) (gc ((34 * (p_way (n - 1) y i)) + j))) ga gb gh gg gx ge n k z t kn pl lf (26 * i + j)) H := hP
              have hD : va_D A (wMd G b gc gd gw gf (upd (va_cpy gc pq (34 * p_way (n - 1) y i) (26 * i) j) (26 * i + j) (gc ((34 * (p_way (n - 1) y i)) + j))) ga gb gh gg gx ge n k z t kn pl lf (26 * i + j)) := hD
              refine lv_aload_n hx hb dX3_prove_64 rfl (lv_at hl 0 rfl) ?_
              refine lv_dup hx hb dX3_prove_65 rfl ?_
              refine va_get (D := G.1) (ci := 3) (v := .int (nI (26 * i + j))) (C := RX3) (T := TX3) (N := 19) hx hb hts hiX3 hown hK hP 0 rfl rfl 12 (by decide) lk216 (fun _ h9 => h9) rfl dX3_prove_66 ?_
              refine lv_iconst (v := nI 1) hx hb dX3_prove_69 (by decide) ?_
              refine ad_N hx hb (26 * i + j) 1 dX3_prove_70 ?_
              refine va_put (D := G.1) (ci := 3) (v := .int (nI ((26 * i + j) + 1))) (ty := .int) (C := RX3) (T := TX3) (N := 19) hx hb hts hiX3 tyX3 tyX3_ok nmX3 hown hK hP hD hS 0 rfl rfl 12 (by decide) lk216 (fun _ h9 => h9) rfl (by decide +kernel) rfl rfl (Nat.le_of_ble_eq_true rfl) dX3_prove_71 (fun H locs hP hD hS => ?_)
              have hP : va_P G.1 vwCl (wMd G b gc gd gw gf (upd (va_cpy gc pq (34 * p_way (n - 1) y i) (26 * i) j) (26 * i + j) (gc ((34 * (p_way (n - 1) y i)) + j))) ga gb gh gg gx ge n k z t kn pl lf ((26 * i + j) + 1)) H := hP
              have hD : va_D A (wMd G b gc gd gw gf (upd (va_cpy gc pq (34 * p_way (n - 1) y i) (26 * i) j) (26 * i + j) (gc ((34 * (p_way (n - 1) y i)) + j))) ga gb gh gg gx ge n k z t kn pl lf ((26 * i + j) + 1)) := hD
              rw [show upd (va_cpy gc pq (34 * p_way (n - 1) y i) (26 * i) j) (26 * i + j) (gc (34 * p_way (n - 1) y i + j)) = va_cpy gc pq (34 * p_way (n - 1) y i) (26 * i) (j + 1) from cpy_sd] at hP hD
              refine lv_iinc (v := nI (j + 1)) (lv' := [(4, .int (nI (j + 1))), (0, .ref (b 0)), (1, .int (nI y)), (2, .int (nI (p_way (n - 1) y i))), (3, .int (bI bb))]) hx hb dX3_prove_74 hl (k := 4) rfl (inc_N j 1) (by decide) rfl (fun ls hl => ?_)
              refine lv_goto (tgt := 36) hx hb dX3_prove_77 (by decide) ?_
              exact ih2 (j + 1) (by omega) (by omega) _ _ _ hP hD hS (lv_sub hl [1, 2, 3, 4, 0] rfl)
    · refine lv_bipush (v := (-2)) hx hb dX3_prove_12 (by decide) ?_
      exact ret 14 _ _ _ (-2) (gp, pn) dX3_prove_14 (Or.inl ⟨ok_F (Or.inr c9), rfl, rfl, rfl⟩) hP hD hS
