/-! Pure words for what the methods do. -/
def bI (b : Bool) : Int32 := if b then nI 1 else nI 0
def allN (p : Nat → Bool) : Nat → Bool
  | 0 => true
  | n + 1 => allN p n && p n
theorem allN_iff {p : Nat → Bool} : ∀ {n : Nat}, allN p n = true ↔ ∀ i, i < n → p i = true
  | 0 => ⟨fun _ i h => absurd h (Nat.not_lt_zero i), fun _ => rfl⟩
  | n + 1 => by
    rw [allN, Bool.and_eq_true, allN_iff]
    constructor
    · intro h i hi
      rcases Nat.lt_or_ge i n with q | q
      · exact h.1 i q
      · rw [show i = n by omega]; exact h.2
    · intro h
      exact ⟨fun i hi => h i (by omega), h n (by omega)⟩
theorem al_T {p : Nat → Bool} {n : Nat} (h : ∀ i, i < n → p i = true) : nI 1 = bI (allN p n) := by rw [allN_iff.mpr h]; rfl
theorem al_F {p : Nat → Bool} {n i : Nat} (hi : i < n) (h : ¬ p i = true) : nI 0 = bI (allN p n) := by
  have e : allN p n = false := by
    cases q : allN p n with
    | false => rfl
    | true => exact absurd (allN_iff.mp q i hi) h
  rw [e]; rfl
theorem bI_z {b : Bool} (h : bI b = 0) : b = false := by cases b with
  | false => rfl
  | true => exact absurd h (by decide)
theorem bI_n {b : Bool} (h : ¬ bI b = 0) : b = true := by cases b with
  | false => exact absurd rfl h
  | true => rfl
def p_rot (x k : Int32) : Int32 := p_ush x k ||| (x <<< ((nI 32 - k) &&& 31))
def p_st1 (x s : Int32) : Int32 := s ^^^ (p_rot (x * (-862048943)) (nI 17) * nI 461845907)
def p_st2 (h : Int32) : Int32 := ((p_rot h (nI 19) * nI 5) + (-430675100)) ^^^ nI 4
def p_st3 (h : Int32) : Int32 := (h ^^^ p_ush h (nI 16)) * (-2048144789)
def p_st4 (h : Int32) : Int32 := (h ^^^ p_ush h (nI 13)) * (-1028477387)
def p_stir (x s : Int32) : Int32 := p_st4 (p_st3 (p_st2 (p_st1 x s))) ^^^ p_ush (p_st4 (p_st3 (p_st2 (p_st1 x s)))) (nI 16)
def p_bit (w i : Int32) : Nat := (p_stir w (nI 0) + i * p_stir w (-1756908916)).toBitVec.toNat % 1024
theorem p_bit_lt (w i : Int32) : p_bit w i < 1024 := Nat.mod_lt _ (by decide)
theorem p_bit_eq (w i : Int32) : (p_stir w (nI 0) + (i * p_stir w (-1756908916))) &&& nI 1023 = nI (p_bit w i) := pk_and _ 10 (by decide)
def p_msk (b : Nat) : Int32 := nI 1 <<< ((nI b &&& nI 31) &&& 31)
def p_set (f : Nat → Int32) (b : Nat) : Nat → Int32 := upd f (b / 32) (f (b / 32) ||| p_msk b)
def p_incN (f : Nat → Int32) (w : Int32) : Nat → Nat → Int32
  | 0 => f
  | i + 1 => p_set (p_incN f w i) (p_bit w (nI i))
def p_has (f : Nat → Int32) (w : Int32) (i : Nat) : Bool := !decide ((f (p_bit w (nI i) / 32) &&& p_msk (p_bit w (nI i))) = 0)
theorem ush5 {b : Nat} (h : b < 1024) : p_ush (nI b) (nI 5) = nI (b / 32) := pk_ushrN (by omega) (nI 5) 5 (by decide)
/-- SHA-256 -/
def p_nw (w : Nat → Int32) (t : Nat) : Int32 := w (t - 16) + ((p_rot (w (t - 15)) (nI 7) ^^^ p_rot (w (t - 15)) (nI 18)) ^^^ p_ush (w (t - 15)) (nI 3)) + w (t - 7) + ((p_rot (w (t - 2)) (nI 17) ^^^ p_rot (w (t - 2)) (nI 19)) ^^^ p_ush (w (t - 2)) (nI 10))
def p_sprN (w : Nat → Int32) : Nat → Nat → Int32
  | 0 => w
  | k + 1 => upd (p_sprN w k) (16 + k) (p_nw (p_sprN w k) (16 + k))
abbrev p_w (w : Nat → Int32) : Nat → Int32 := p_sprN w 48
abbrev p_T : Type := Int32 × Int32 × Int32 × Int32 × Int32 × Int32 × Int32 × Int32
def p_x (e f g h k w : Int32) : Int32 := h + ((p_rot e (nI 6) ^^^ p_rot e (nI 11)) ^^^ p_rot e (nI 25)) + ((e &&& f) ^^^ ((e ^^^ (-1)) &&& g)) + k + w
def p_y (a b c : Int32) : Int32 := ((p_rot a (nI 2) ^^^ p_rot a (nI 13)) ^^^ p_rot a (nI 22)) + (((a &&& b) ^^^ (a &&& c)) ^^^ (b &&& c))
def p_rnd (k w : Int32) (s : p_T) : p_T := match s with
  | (a, b, c, d, e, f, g, h) => (p_x e f g h k w + p_y a b c, a, b, c, d + p_x e f g h k w, e, f, g)
def p_rs (w : Nat → Int32) (s : p_T) : Nat → p_T
  | 0 => s
  | n + 1 => p_rnd (st_K n) (w n) (p_rs w s n)
def p_tup (h : Nat → Int32) : p_T := (h 0, h 1, h 2, h 3, h 4, h 5, h 6, h 7)
def p_add (h : Nat → Int32) (s : p_T) : Nat → Int32 := upd (upd (upd (upd (upd (upd (upd (upd h 0 (h 0 + s.1)) 1 (h 1 + s.2.1)) 2 (h 2 + s.2.2.1)) 3 (h 3 + s.2.2.2.1)) 4 (h 4 + s.2.2.2.2.1)) 5 (h 5 + s.2.2.2.2.2.1)) 6 (h 6 + s.2.2.2.2.2.2.1)) 7 (h 7 + s.2.2.2.2.2.2.2)
def p_mix (h w : Nat → Int32) : Nat → Int32 := p_add h (p_rs (p_w w) (p_tup h) 64)
