section RL
variable {fb fc fd fr fp gc gd gw gf gp ge : Nat → Int32} {n k z t pl lf pn : Nat} {kn : Int32}
theorem rel_begin (h : Rel fb fc fd fr fp n k z t kn pl lf pn gc gd gw gf gp) : Rel fb fc fd fr fp n k z t kn 0 lf pn gc gd gw gf gp := by
  obtain ⟨hB, hc, hd, hr, hf, hp, hk⟩ := h
  exact ⟨⟨hB.1, hB.2.1, hB.2.2.1, hB.2.2.2.1, by ((try clear hk); (try clear h1); (try clear h2); (try clear hneg); (try clear hq); (try clear hq2); omega), hB.2.2.2.2.2⟩, hc, hd, hr, hf, hp, hk⟩
theorem rel_pending (h : Rel fb fc fd fr fp n k z t kn pl lf pn gc gd gw gf gp) (x : Int32) : (if p_ok x k then fr (16 + p_ix x) else nI 0) = (if p_ok x k then gw (p_ix x) else nI 0) := by
  obtain ⟨hB, hc, hd, hr, hf, hp, hk⟩ := h
  cases q : p_ok x k with
  | false => rfl
  | true =>
    obtain ⟨j, hj, rfl⟩ := ok_of (by ((try clear hk); (try clear h1); (try clear h2); (try clear hneg); (try clear hq); (try clear hq2); omega)) q
    rw [if_pos rfl, if_pos rfl, ix_N hj (by ((try clear hk); (try clear h1); (try clear h2); (try clear hneg); (try clear hq); (try clear hq2); omega)), hr j (by ((try clear hk); (try clear h1); (try clear h2); (try clear hneg); (try clear hq); (try clear hq2); omega)), if_pos hj]
theorem rel_head (h : Rel fb fc fd fr fp n k z t kn pl lf pn gc gd gw gf gp) (x : Int32) : (if p_ok x 8 then fd (p_ix x) else nI 0) = (if p_ok x 8 then gd (p_ix x) else nI 0) := by
  obtain ⟨hB, hc, hd, hr, hf, hp, hk⟩ := h
  cases q : p_ok x 8 with
  | false => rfl
  | true =>
    obtain ⟨j, hj, rfl⟩ := ok_of (n := 8) (by ((try clear hk); (try clear h1); (try clear h2); (try clear hneg); (try clear hq); (try clear hq2); omega)) q
    rw [if_pos rfl, if_pos rfl, ix_N hj (by ((try clear hk); (try clear h1); (try clear h2); (try clear hneg); (try clear hq); (try clear hq2); omega)), hd j hj]
theorem rel_proof (h : Rel fb fc fd fr fp n k z t kn pl lf pn gc gd gw gf gp) (x : Int32) : (if p_ok x pn then fp (p_ix x) else nI 0) = (if p_ok x pn then gp (p_ix x) else nI 0) := by
  obtain ⟨hB, hc, hd, hr, hf, hp, hk⟩ := h
  cases q : p_ok x pn with
  | false => rfl
  | true =>
    obtain ⟨j, hj, rfl⟩ := ok_of (by ((try clear hk); (try clear h1); (try clear h2); (try clear hneg); (try clear hq); (try clear hq2); omega)) q
    rw [if_pos rfl, if_pos rfl, ix_N hj (by ((try clear hk); (try clear h1); (try clear h2); (try clear hneg); (try clear hq); (try clear hq2); omega)), hp j hj]
theorem rel_cell (h : Rel fb fc fd fr fp n k z t kn pl lf pn gc gd gw gf gp) (x y : Int32) : (if (p_ok x n && p_ok y 34) then fc (p_ix x * 34 + p_ix y) else nI 0) = (if (p_ok x n && p_ok y 34) then gc (34 * p_ix x + p_ix y) else nI 0) := by
  obtain ⟨hB, hc, hd, hr, hf, hp, hk⟩ := h
  cases q : (p_ok x n && p_ok y 34) with
  | false => rfl
  | true =>
    rw [Bool.and_eq_true] at q
    obtain ⟨i, hi, rfl⟩ := ok_of (by ((try clear hk); (try clear h1); (try clear h2); (try clear hneg); (try clear hq); (try clear hq2); omega)) q.1
    obtain ⟨j, hj, rfl⟩ := ok_of (n := 34) (by ((try clear hk); (try clear h1); (try clear h2); (try clear hneg); (try clear hq); (try clear hq2); omega)) q.2
    rw [if_pos rfl, if_pos rfl, ix_N hi (by ((try clear hk); (try clear h1); (try clear h2); (try clear hneg); (try clear hq); (try clear hq2); omega)), ix_N (n := 34) hj (by ((try clear hk); (try clear h1); (try clear h2); (try clear hneg); (try clear hq); (try clear hq2); omega)), hc _ (by ((try clear hk); (try clear h1); (try clear h2); (try clear hneg); (try clear hq); (try clear hq2); omega)), Nat.mul_comm]
theorem rel_start (d : Nat) (hd : d ≤ 20) : Rel (fun _ => 0) (fun _ => 0) (fun _ => 0) (fun _ => 0) (fun _ => 0) 0 0 d 0 (-1) 0 0 0 (fun _ => 0) (fun _ => 0) (fun _ => 0) (fun _ => 0) (fun _ => 0) := by
  refine ⟨⟨by ((try clear hk); (try clear h1); (try clear h2); (try clear hneg); (try clear hq); (try clear hq2); omega), by ((try clear hk); (try clear h1); (try clear h2); (try clear hneg); (try clear hq); (try clear hq2); omega), hd, by ((try clear hk); (try clear h1); (try clear h2); (try clear hneg); (try clear hq); (try clear hq2); omega), by ((try clear hk); (try clear h1); (try clear h2); (try clear hneg); (try clear hq); (try clear hq2); omega), by ((try clear hk); (try clear h1); (try clear h2); (try clear hneg); (try clear hq); (try clear hq2); omega), by ((try clear hk); (try clear h1); (try clear h2); (try clear hneg); (try clear hq); (try clear hq2); omega)⟩, fun _ _ => rfl, fun _ _ => rfl, fun j _ => by rw [if_neg (by ((try clear hk); (try clear h1); (try clear h2); (try clear hneg); (try clear hq); (try clear hq2); omega))]; rfl, fun b hb => ?_, fun _ _ => rfl, Or.inl rfl⟩
  have z : (0 : Int32) &&& p_msk b = 0 := by
    apply Int32.toBitVec_inj.mp
    simp
  exact ⟨fun _ => rfl, fun _ => z⟩
end RL
