section RL
variable {fb fc fd fr fp gc gd gw gf gp ge : Nat → Int32} {n k z t pl lf pn : Nat} {kn : Int32}
theorem due_eq {x y : Nat} (hd : ∀ j, j < 8 → fd j = gd j) : ∀ i, (∀ j, j < 26 * (i + 1) → fp j = gp j) → ∀ j, j < 8 → p_due fd fp x y i j = p_due gd gp x y i j
  | 0, _, j, hj => hd j hj
  | i + 1, hp, j, hj => by
    rw [p_due, p_due]
    apply hp
    split <;> omega
theorem chk_eq {x y i : Nat} (hd : ∀ j, j < 8 → fd j = gd j) (hp : ∀ j, j < 26 * (i + 1) → fp j = gp j) : p_chk fd fp x y i = p_chk gd gp x y i := by
  have eh := hash_congr (f := fp) (g := gp) (k := 26 * i) (i := 26 * i) (fun a ha => hp (26 * i + a) (by omega))
  have ed := due_eq (x := x) (y := y) hd i hp
  rw [p_chk, p_chk]
  exact allN_congr (fun j hj => by rw [eh j hj, ed j hj])
theorem rel_check {x r1 r2 : Int32} (h : Rel fb fc fd fr fp n k z t kn pl lf pn gc gd gw gf gp) (h1 : q_check fd fp n pn x r1) (h2 : q_check gd gp n pn x r2) : r1 = r2 := by
  obtain ⟨hB, hc, hd, hr, hf, hp, hk⟩ := h
  rcases h1 with ⟨a0, rfl⟩ | ⟨y, K, a1, rfl, a2, rfl⟩
  · rcases h2 with ⟨b0, rfl⟩ | ⟨y, K, b1, rfl, -⟩
    · rfl
    · rw [ok_N (by ((try clear hk); (try clear h1); (try clear h2); (try clear hneg); (try clear hq); (try clear hq2); omega)), decide_eq_true b1] at a0; cases a0
  · rcases h2 with ⟨b0, -⟩ | ⟨y2, K2, b1, e, b2, rfl⟩
    · rw [ok_N (by ((try clear hk); (try clear h1); (try clear h2); (try clear hneg); (try clear hq); (try clear hq2); omega)), decide_eq_true a1] at b0; cases b0
    · have e2 : y = y2 := (nI_eq (by ((try clear hk); (try clear h1); (try clear h2); (try clear hneg); (try clear hq); (try clear hq2); omega)) (by ((try clear hk); (try clear h1); (try clear h2); (try clear hneg); (try clear hq); (try clear hq2); omega))).mp e
      subst e2
      have e3 : K = K2 := end_1 a2 b2
      subst e3
      by_cases q : pn = 26 * (K + 1)
      · have ec : ∀ i, i < K + 1 → p_chk fd fp (n - 1) y i = p_chk gd gp (n - 1) y i := fun i hi => chk_eq hd (fun j hj => hp j (by ((try clear hk); (try clear h1); (try clear h2); (try clear hneg); (try clear hq); (try clear hq2); omega)))
        rw [decide_eq_true q, allN_congr ec]
      · rw [decide_eq_false q, Bool.false_and, Bool.false_and]
end RL
