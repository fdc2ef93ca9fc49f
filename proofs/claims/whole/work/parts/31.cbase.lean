/-! Constructors: what makes cells. -/
abbrev MetC (l : Launch) (y : MethodName) (ws : List Cond) (rm : Room) (av : List Value) (G : gG) (w : va_W) (sz : Nat) {S : Type} (wv : S → va_W) (post : S → Prop) (mc ms : Nat) : Prop :=
  Met l y ws rm (va_Pc av (cP G w sz)) (va_Qv post (cB G w sz wv) (va_A w sz)) mc ms (va_A w sz)
theorem ent_c {l : Launch} {y : MethodName} {ws : List Cond} (ws' : List Cond) {rm : Room} (cc : ByteArray) (maxL : Nat) {av : List Value} {G : gG} {w : va_W} {sz : Nat} {S : Type} {wv : S → va_W} {post : S → Prop} (mc ms : Nat) (own : String)
    (hy : plainName y.cls = true) (ho : y.cls = own) (hi : y.name = "<init>") (hw : ws = Cond.code y cc maxL none :: ws') (hlen : (lg_sl av).length ≤ maxL)
    (body : ∀ (p : Program) (e : Env) (s : State) (m : MethodId) (args : Array Value) (below : List Frame) (meth : Method) (c : Code) (A : Nat → Prop) (Q : State → Prop) (ls : Array Slot),
      p.tables.exec = Jvm.exec → c.code = cc → c.maxLocals = maxL → (∀ w ∈ ws, w.before args s = true) → s.vm.findClass own = some m.cls → meth.name = "<init>" → (∀ q : Nat, s.heap.size ≤ q → A q) → va_K G.1 vwCl (gT G) s → st_X G A s s.heap →
      (∀ (pc : Nat) (ls : Array Slot) (H : Heap) (locs : List Loc) (u : S), decode cc pc = .ok (.return_, 1) → post u → va_P G.1 vwCl (wv u) H → va_D A (wv u) → va_S A s.heap H locs → W p l e rm s m args below meth c H locs mc ms Q (F0 m pc ls [])) →
      lv_has ls maxL (lv_args 0 av) → va_P G.1 vwCl w s.heap → va_D A w → va_S A s.heap s.heap [] → W p l e rm s m args below meth c s.heap [] 0 0 Q (F0 m 0 ls [])) : MetC l y ws rm av G w sz wv post mc ms := by
  refine Met.ofW (cc := cc) (maxL := maxL) (ret := none) hy hw ?_
  intro p e s m args below meth c s₁ B hml hv
  obtain ⟨rfl, hsz, hP, hK, hD0, hX⟩ := hv
  have hx := B.exec
  have hb := B.bytes
  have hr := B.returns
  have hts := atoms_spec (ws := ws) B.pre
  have hown : s.vm.findClass own = some m.cls := by rw [← ho]; exact findClass_of_methodNamed B.named
  have hlocks := B.notSynchronized
  have hin : meth.name = "<init>" := by rw [← hi]; exact (name_of_methodNamed B.named B.method).1
  subst hsz
  have hl := lv_entry av (n := maxL) hlen
  rw [lg_entry_eq]
  refine body p e s m _ below meth c (va_A w s.heap.size) _ _ hx hb hml hts hown hin (fun q h => Or.inr h) hK hX ?_ hl hP hD0.self va_S.rf
  intro pc ls H locs u hd hp hP hD hS
  exact W.vret hx hb hr (fun t ht hW => ⟨⟨u, rfl, hp, by rw [ht]; exact hP, va_K.moved hW.alike hK, hD⟩, hS.F ht⟩) hS.2.2 hd
section RWC
variable {p : Program} {l : Launch} {e : Env} {R : Room} {s : State} {m : MethodId} {args : Array Value} {below : List Frame} {meth : Method} {c : Code} {H : Heap} {locs : List Loc} {cells slots : Nat} {Q : State → Prop}
variable {cc : ByteArray} {pc : Nat} {ls : Array Slot} {rest : List Value} {G : gG} {A : Nat → Prop} {a : Nat} {w : va_W}
theorem nw_i (hexec : p.tables.exec = Jvm.exec) (hb : c.code = cc) (harr : (Cond.arrayClass .int).before args s = true) (hK : va_K G.1 vwCl (gT G) s) (hP : va_P G.1 vwCl w H) (hD : va_D A w) (hS : va_S A s.heap H locs) (hA : ∀ q : Nat, s.heap.size ≤ q → A q) (n : Nat) (hn : n ≤ 65536) (hcells : cells + 1 ≤ R.cells) (hslots : slots + n ≤ R.slots) (hdg : decode cc pc = .ok (.newarray .int, 2))
    (kk : ∀ (q : Nat) (H1 : Heap), va_P G.1 vwCl (w ++ [(q, .inl (G.2.2.1, n, .inl (fun _ => 0)))]) H1 → va_D A (w ++ [(q, .inl (G.2.2.1, n, .inl (fun _ => 0)))]) → va_S A s.heap H1 locs → W p l e R s m args below meth c H1 locs (cells + 1) (slots + n) Q (F0 m (pc + 2) ls (.ref q :: rest))) : W p l e R s m args below meth c H locs cells slots Q (F0 m pc ls (.int (nI n) :: rest)) := by
  refine va_newa (atype := .int) (ty := .int) (a0 := (n, .inl (fun _ => 0))) hexec hb harr rfl hK hP hD hS hA (fun _ => rfl) (nI_pos (by omega)) (nI_clamp (by omega)) (by show n * 4 ≤ _; omega) hcells hslots hdg ?_
  intro q cA H1 hK' hP' hD' hS'
  have h1 : s.vm.findClass ("[" ++ FieldType.int.toString) = some cA := (hK'.2 2 (cA, .int) rfl).2
  have h2 : s.vm.findClass ("[" ++ FieldType.int.toString) = some G.2.2.1 := (hK.2 0 (G.2.2.1, .int) rfl).2
  have e : cA = G.2.2.1 := Option.some.inj (h1.symm.trans h2)
  subst e
  exact kk q H1 hP' hD' hS'
theorem nw_z (hexec : p.tables.exec = Jvm.exec) (hb : c.code = cc) (harr : (Cond.arrayClass .boolean).before args s = true) (hK : va_K G.1 vwCl (gT G) s) (hP : va_P G.1 vwCl w H) (hD : va_D A w) (hS : va_S A s.heap H locs) (hA : ∀ q : Nat, s.heap.size ≤ q → A q) (n : Nat) (hn : n ≤ 65536) (hcells : cells + 1 ≤ R.cells) (hslots : slots + n ≤ R.slots) (hdg : decode cc pc = .ok (.newarray .boolean, 2))
    (kk : ∀ (q : Nat) (H1 : Heap), va_P G.1 vwCl (w ++ [(q, .inl (G.2.2.2, n, .inl (fun _ => 0)))]) H1 → va_D A (w ++ [(q, .inl (G.2.2.2, n, .inl (fun _ => 0)))]) → va_S A s.heap H1 locs → W p l e R s m args below meth c H1 locs (cells + 1) (slots + n) Q (F0 m (pc + 2) ls (.ref q :: rest))) : W p l e R s m args below meth c H locs cells slots Q (F0 m pc ls (.int (nI n) :: rest)) := by
  refine va_newa (atype := .boolean) (ty := .boolean) (a0 := (n, .inl (fun _ => 0))) hexec hb harr rfl hK hP hD hS hA (fun _ => rfl) (nI_pos (by omega)) (nI_clamp (by omega)) (by show n * 1 ≤ _; omega) hcells hslots hdg ?_
  intro q cA H1 hK' hP' hD' hS'
  have h1 : s.vm.findClass ("[" ++ FieldType.boolean.toString) = some cA := (hK'.2 2 (cA, .boolean) rfl).2
  have h2 : s.vm.findClass ("[" ++ FieldType.boolean.toString) = some G.2.2.2 := (hK.2 1 (G.2.2.2, .boolean) rfl).2
  have e : cA = G.2.2.2 := Option.some.inj (h1.symm.trans h2)
  subst e
  exact kk q H1 hP' hD' hS'
variable {y : MethodName} {bytes : ByteArray} {maxL nL n index mc ms : Nat} {ws : List Cond} {rm : Room} {Ts : List Cond} {own C host : String} {b : Addr} {S : Type} {wv : S → va_W} {wc wr : va_W}
theorem aft_c {post : S → Prop} {st0 : List Value} {ar : Array Value} (hA : ∀ q : Nat, s.heap.size ≤ q → A q) (hP : va_P G.1 vwCl w H) (hD : va_D A w) (hS : va_S A s.heap H locs) (isC isR : List Nat) (hC : isC.map (fun i => w[i]?) = wc.map some) (hR : isR.map (fun i => w[i]?) = wr.map some) (hn : va_nd isR = true) (hdis : ∀ i ∈ isR, i ∉ isC)
    (hr : va_Run p l e R s m args below meth c H locs cells slots mc ms (F0 m pc ls st0) rest (va_Qv post (cB G wc H.size wv) (va_A wc H.size) ar) (va_A wc H.size))
    (kk : ∀ (u : S) (H1 : Heap) (locs1 : List Loc), post u → va_P G.1 vwCl (wr ++ wv u) H1 → va_D A (wr ++ wv u) → va_S A s.heap H1 locs1 → W p l e R s m args below meth c H1 locs1 (cells + mc) (slots + ms) Q (F0 m (pc + 3) ls rest)) : W p l e R s m args below meth c H locs cells slots Q (F0 m pc ls st0) := by
  have hF := va_free (wc := wc) hD hS hA isC hC
  refine va_callv hr hS (fun q _ h => hF q h) hF (fun u t H1 locs1 ht hvm hw hB hz1 hk1 hS1 => ?_)
  obtain ⟨hP1, hK1, hD1⟩ := hB
  rw [ht] at hP1
  obtain ⟨hP2, hD2⟩ := va_join hP hD isC isR hC hR hn hdis hk1 hF hP1 hD1
  exact kk u H1 locs1 hw hP2 hD2 hS1
theorem call_IN {post : S → Prop} (As rest : List Value) (sx : CallFix p m c cc nL s args Ts own) (hK : va_K G.1 vwCl (gT G) s) (hX : st_X G A s s.heap) (hA : ∀ q : Nat, s.heap.size ≤ q → A q) (hP : va_P G.1 vwCl w H) (hD : va_D A w) (hS : va_S A s.heap H locs)
    (hM : MetC l y ws rm (.ref b :: As) G wc H.size wv post mc ms) (cw : va_CN R s args own index y host bytes maxL none ws rm mc ms n ∧ y.name = "<init>" ∧ (Cond.instanceMethod y).before args s = true)
    (isC isR : List Nat) (hC : isC.map (fun i => w[i]?) = wc.map some) (hR : isR.map (fun i => w[i]?) = wr.map some) (hnC : va_nd isC = true) (hn : va_nd isR = true) (hdis : ∀ i ∈ isR, i ∉ isC)
    (hln : As.length = n) (hsize : ls.size = nL) (hW : (rest.map fun v => v.category).sum ≤ 8) (hdg : decode cc pc = .ok (.invokespecial index, 3)) (hf : cells + mc ≤ R.cells ∧ slots + ms ≤ R.slots)
    (kk : ∀ (u : S) (H1 : Heap) (locs1 : List Loc), post u → va_P G.1 vwCl (wr ++ wv u) H1 → va_D A (wr ++ wv u) → va_S A s.heap H1 locs1 → W p l e R s m args below meth c H1 locs1 (cells + mc) (slots + ms) Q (F0 m (pc + 3) ls rest)) : W p l e R s m args below meth c H locs cells slots Q (F0 m pc ls (As.reverse ++ .ref b :: rest)) :=
  aft_c hA hP hD hS isC isR hC hR hn hdis (va_runIN (As := As) (rest := rest) sx hM cw ⟨cP_blind _ _ _, cP_at (.ref b :: As) hK hX hA hP hD hS isC hC hnC⟩ rfl hln hsize rfl (lv_room hW) hdg hf) kk
theorem call_IC {post : S → Prop} (As rest : List Value) (sx : CallFix p m c cc nL s args Ts own) (hK : va_K G.1 vwCl (gT G) s) (hX : st_X G A s s.heap) (hA : ∀ q : Nat, s.heap.size ≤ q → A q) (hP : va_P G.1 vwCl w H) (hD : va_D A w) (hS : va_S A s.heap H locs)
    (hM : MetC l y ws rm (.ref b :: As) G wc H.size wv post mc ms) (cw : CallB R s args own index y bytes maxL none ws rm mc ms n ∧ y.name = "<init>" ∧ (Cond.instanceMethod y).before args s = true)
    (isC isR : List Nat) (hC : isC.map (fun i => w[i]?) = wc.map some) (hR : isR.map (fun i => w[i]?) = wr.map some) (hnC : va_nd isC = true) (hn : va_nd isR = true) (hdis : ∀ i ∈ isR, i ∉ isC)
    (hln : As.length = n) (hsize : ls.size = nL) (hW : (rest.map fun v => v.category).sum ≤ 8) (hdg : decode cc pc = .ok (.invokespecial index, 3)) (hf : cells + mc ≤ R.cells ∧ slots + ms ≤ R.slots)
    (kk : ∀ (u : S) (H1 : Heap) (locs1 : List Loc), post u → va_P G.1 vwCl (wr ++ wv u) H1 → va_D A (wr ++ wv u) → va_S A s.heap H1 locs1 → W p l e R s m args below meth c H1 locs1 (cells + mc) (slots + ms) Q (F0 m (pc + 3) ls rest)) : W p l e R s m args below meth c H locs cells slots Q (F0 m pc ls (As.reverse ++ .ref b :: rest)) :=
  aft_c hA hP hD hS isC isR hC hR hn hdis (va_runI (As := As) (rest := rest) sx hM cw ⟨cP_blind _ _ _, cP_at (.ref b :: As) hK hX hA hP hD hS isC hC hnC⟩ rfl hln hsize rfl (lv_room hW) hdg hf) kk
end RWC
def p_cl (x : Int32) : Nat := if x.toInt < 0 then 0 else if 20 < x.toInt then 20 else x.toInt.toNat
theorem p_cl_le (x : Int32) : p_cl x ≤ 20 := by
  simp only [p_cl]
  split
  · omega
  · split <;> omega
theorem cl_lo {x : Int32} (h : x.toInt < 0) : nI 0 = nI (p_cl x) := by rw [p_cl, if_pos h]
theorem cl_hi {x : Int32} (h : 20 < x.toInt) : nI 20 = nI (p_cl x) := by rw [p_cl, if_neg (by omega), if_pos h]
theorem cl_in {x : Int32} (h : 0 ≤ x.toInt) (h2 : x.toInt ≤ 20) : x = nI (p_cl x) := by
  obtain ⟨j, hj, rfl⟩ := of_nn h
  rw [p_cl, if_neg (by omega), if_neg (by omega), tI_N hj]
  rfl
theorem cl_mm (x : Int32) : (if nI 0 < (if x < nI 20 then x else nI 20) then (if x < nI 20 then x else nI 20) else nI 0) = nI (p_cl x) := by
  have e0 : (nI 0).toInt = 0 := tI_N (by omega)
  have e20 : (nI 20).toInt = 20 := tI_N (by omega)
  by_cases h : x < nI 20
  · rw [if_pos h]
    have h' := tI_lt.mp h
    rw [e20] at h'
    by_cases q : nI 0 < x
    · rw [if_pos q]; have := tI_lt.mp q; rw [e0] at this; exact cl_in (by omega) (by omega)
    · rw [if_neg q]
      have : x.toInt ≤ 0 := Int.not_lt.mp (fun z => q (tI_lt.mpr (by rw [e0]; exact z)))
      by_cases w : x.toInt < 0
      · exact cl_lo w
      · rw [p_cl, if_neg w, if_neg (by omega)]; congr 1; omega
  · rw [if_neg h, if_pos (tI_lt.mpr (by rw [e0, e20]; omega))]
    have h' : 20 ≤ x.toInt := Int.not_lt.mp (fun z => h (tI_lt.mpr (by rw [e20]; exact z)))
    by_cases w : 20 < x.toInt
    · exact cl_hi w
    · rw [p_cl, if_neg (by omega), if_neg w]; congr 1; omega
