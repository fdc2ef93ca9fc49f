section RL
variable {fb fc fd fr fp gc gd gw gf gp ge : Nat → Int32} {n k z t pl lf pn : Nat} {kn : Int32}
theorem flt_eq (hc : ∀ j, j < 2040 → fc j = gc j) (hn : n ≤ 60) {y : Nat} (hy : y < n) : p_flt fc n y = p_flt gc n y := by
  have e1 : ∀ (x : Int32) (d : Nat), d + 8 ≤ 2040 → allN (p_iho fc n x fc d) 8 = allN (p_iho gc n x gc d) 8 := fun x d hd => allN_congr (fun i hi => by simp only [p_iho]; rw [hc _ (by ((try clear hk); (try clear h1); (try clear h2); (try clear hneg); (try clear hq); (try clear hq2); omega)), hc_eq hc hn x hi])
  have eh : ∀ j, j < 8 → p_hash fc (y * 34) j = p_hash gc (y * 34) j := hash_congr (fun j hj => hc _ (by ((try clear hk); (try clear h1); (try clear h2); (try clear hneg); (try clear hq); (try clear hq2); omega)))
  have e2 : allN (p_is (p_hash fc (y * 34)) fc (y * 34 + 26)) 8 = allN (p_is (p_hash gc (y * 34)) gc (y * 34 + 26)) 8 := allN_congr (fun i hi => by simp only [p_is]; rw [hc _ (by ((try clear hk); (try clear h1); (try clear h2); (try clear hneg); (try clear hq); (try clear hq2); omega)), eh i hi])
  simp only [p_flt]
  rw [e1 _ _ (by ((try clear hk); (try clear h1); (try clear h2); (try clear hneg); (try clear hq); (try clear hq2); omega)), e1 _ _ (by ((try clear hk); (try clear h1); (try clear h2); (try clear hneg); (try clear hq); (try clear hq2); omega)), e2, p_zeros_congr eh, hc _ (by ((try clear hk); (try clear h1); (try clear h2); (try clear hneg); (try clear hq); (try clear hq2); omega))]
end RL
