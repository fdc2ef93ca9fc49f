/-! What every method takes along: the class's two static tables, four links of private members, the tables of classes. -/
abbrev gG : Type := va_G × (Nat × Nat) × (ClassId × ClassId)
abbrev gT (G : gG) : List (ClassId × FieldType) := [(G.2.2.1, .int), (G.2.2.2, .boolean)]
def st_S (j : Nat) : Int32 := ([1779033703, -1150833019, 1013904242, -1521486534, 1359893119, -1694144372, 528734635, 1541459225] : List Int32).getD j 0
def st_K (j : Nat) : Int32 := ([1116352408, 1899447441, -1245643825, -373957723, 961987163, 1508970993, -1841331548, -1424204075, -670586216, 310598401, 607225278, 1426881987, 1925078388, -2132889090, -1680079193, -1046744716, -459576895, -272742522, 264347078, 604807628, 770255983, 1249150122, 1555081692, 1996064986, -1740746414, -1473132947, -1341970488, -1084653625, -958395405, -710438585, 113926993, 338241895, 666307205, 773529912, 1294757372, 1396182291, 1695183700, 1986661051, -2117940946, -1838011259, -1564481375, -1474664885, -1035236496, -949202525, -778901479, -694614492, -200395387, 275423344, 430227734, 506948616, 659060556, 883997877, 958139571, 1322822218, 1537002063, 1747873779, 1955562222, 2024104815, -2067236844, -1933114872, -1866530822, -1538233109, -1090935817, -965641998] : List Int32).getD j 0
def st_X (G : gG) (A : Nat → Prop) (U : State) (H : Heap) : Prop :=
  va_Z "MinedLedger$Hasher" "START" "[I" (.ref G.2.1.1) A U H ∧ va_T .int G.2.1.1 8 (fun j => .int (st_S j)) A U H ∧ va_Z "MinedLedger$Hasher" "K" "[I" (.ref G.2.1.2) A U H ∧ va_T .int G.2.1.2 64 (fun j => .int (st_K j)) A U H ∧
  va_Nw (.methodLinkNest RX1 57 yX2_right RX2) U ∧ va_Nw (.methodLinkNest RX0 28 yX2_right RX2) U ∧ va_Nw (.methodLinkNest RX2 9 yX1_init RX2) U ∧ va_Nw (.methodLinkNest RX2 18 yX0_init RX2) U
theorem st_X.go {G : gG} {A B : Nat → Prop} {u U : State} {H H1 : Heap} (h : st_X G A u H) (hW : u.WarmedH U.vm) (hq : ∀ a : Nat, a < H.size → ¬ A a → H1[a]? = H[a]?) (hAB : ∀ q, B q → A q) : st_X G B U H1 :=
  ⟨((h.1.kept hq).moved hW.alike).narrow hAB, ((h.2.1.kept hq).moved hW.alike).narrow hAB, ((h.2.2.1.kept hq).moved hW.alike).narrow hAB, ((h.2.2.2.1.kept hq).moved hW.alike).narrow hAB, va_Nw.warmM hW h.2.2.2.2.1, va_Nw.warmM hW h.2.2.2.2.2.1, va_Nw.warmM hW h.2.2.2.2.2.2.1, va_Nw.warmM hW h.2.2.2.2.2.2.2⟩
theorem st_X.calling {G : gG} {A : Nat → Prop} {U : State} {H : Heap} (h : st_X G A U H) (g : JFrame) (mk : MethodId) (a : Array Value) : st_X G A (U.calling g mk a) H :=
  ⟨h.1.moved (Vm.Alike.refl U.vm), h.2.1.moved (Vm.Alike.refl U.vm), h.2.2.1.moved (Vm.Alike.refl U.vm), h.2.2.2.1.moved (Vm.Alike.refl U.vm), va_Nw.same rfl rfl h.2.2.2.2.1, va_Nw.same rfl rfl h.2.2.2.2.2.1, va_Nw.same rfl rfl h.2.2.2.2.2.2.1, va_Nw.same rfl rfl h.2.2.2.2.2.2.2⟩
/-- a method's start and its end, in one form for all of them: G, the cells w, the heap's size sz -/
def cP (G : gG) (w : va_W) (sz : Nat) (U : State) : Prop := U.heap.size = sz ∧ va_P G.1 vwCl w U.heap ∧ va_K G.1 vwCl (gT G) U ∧ va_D (fun _ => True) w ∧ st_X G (va_A w sz) U U.heap
def cB (G : gG) (w : va_W) (sz : Nat) {S : Type} (wv : S → va_W) (u : S) (t : State) : Prop := va_P G.1 vwCl (wv u) t.heap ∧ va_K G.1 vwCl (gT G) t ∧ va_D (va_A w sz) (wv u)
abbrev MetI (l : Launch) (y : MethodName) (ws : List Cond) (rm : Room) (av : List Value) (G : gG) (w : va_W) (sz : Nat) {S : Type} (wv : S → va_W) (post : Int32 → S → Prop) : Prop :=
  Met l y ws rm (va_Pc av (cP G w sz)) (va_Qi post (cB G w sz wv) (va_A w sz)) 0 0 (va_A w sz)
abbrev MetV (l : Launch) (y : MethodName) (ws : List Cond) (rm : Room) (av : List Value) (G : gG) (w : va_W) (sz : Nat) {S : Type} (wv : S → va_W) (post : S → Prop) : Prop :=
  Met l y ws rm (va_Pc av (cP G w sz)) (va_Qv post (cB G w sz wv) (va_A w sz)) 0 0 (va_A w sz)
theorem ent_i {l : Launch} {y : MethodName} {ws : List Cond} (ws' : List Cond) {rm : Room} (cc : ByteArray) (maxL : Nat) {av : List Value} {G : gG} {w : va_W} {sz : Nat} {S : Type} {wv : S → va_W} {post : Int32 → S → Prop} (own : String)
    (hy : plainName y.cls = true) (ho : y.cls = own) (hw : ws = Cond.code y cc maxL (some .int) :: ws') (hlen : (lg_sl av).length ≤ maxL)
    (body : ∀ (p : Program) (e : Env) (s : State) (m : MethodId) (args : Array Value) (below : List Frame) (meth : Method) (c : Code) (A : Nat → Prop) (Q : State → Prop) (ls : Array Slot),
      p.tables.exec = Jvm.exec → c.code = cc → c.maxLocals = maxL → (∀ w ∈ ws, w.before args s = true) → s.vm.findClass own = some m.cls → (∀ q : Nat, s.heap.size ≤ q → A q) → va_K G.1 vwCl (gT G) s → st_X G A s s.heap →
      (∀ (pc : Nat) (ls : Array Slot) (H : Heap) (locs : List Loc) (r : Int32) (u : S), decode cc pc = .ok (.ireturn, 1) → post r u → va_P G.1 vwCl (wv u) H → va_D A (wv u) → va_S A s.heap H locs → W p l e rm s m args below meth c H locs 0 0 Q (F0 m pc ls [.int r])) →
      lv_has ls maxL (lv_args 0 av) → va_P G.1 vwCl w s.heap → va_D A w → va_S A s.heap s.heap [] → W p l e rm s m args below meth c s.heap [] 0 0 Q (F0 m 0 ls [])) : MetI l y ws rm av G w sz wv post := by
  refine Met.ofW (cc := cc) (maxL := maxL) (ret := some .int) hy hw ?_
  intro p e s m args below meth c s₁ B hml hv
  obtain ⟨rfl, hsz, hP, hK, hD0, hX⟩ := hv
  have hx := B.exec
  have hb := B.bytes
  have hr := B.returns
  have hts := atoms_spec (ws := ws) B.pre
  have hown : s.vm.findClass own = some m.cls := by rw [← ho]; exact findClass_of_methodNamed B.named
  have hlocks := B.notSynchronized
  subst hsz
  have hl := lv_entry av (n := maxL) hlen
  rw [lg_entry_eq]
  refine body p e s m _ below meth c (va_A w s.heap.size) _ _ hx hb hml hts hown (fun q h => Or.inr h) hK hX ?_ hl hP hD0.self va_S.rf
  intro pc ls H locs r u hd hp hP hD hS
  exact W.iret hx hb hr (fun t ht hW => ⟨⟨r, u, rfl, hp, by rw [ht]; exact hP, va_K.moved hW.alike hK, hD⟩, hS.F ht⟩) hS.2.2 hd
theorem ent_z {l : Launch} {y : MethodName} {ws : List Cond} (ws' : List Cond) {rm : Room} (cc : ByteArray) (maxL : Nat) {av : List Value} {G : gG} {w : va_W} {sz : Nat} {S : Type} {wv : S → va_W} {post : Int32 → S → Prop} (own : String)
    (hy : plainName y.cls = true) (ho : y.cls = own) (hw : ws = Cond.code y cc maxL (some .boolean) :: ws') (hlen : (lg_sl av).length ≤ maxL)
    (body : ∀ (p : Program) (e : Env) (s : State) (m : MethodId) (args : Array Value) (below : List Frame) (meth : Method) (c : Code) (A : Nat → Prop) (Q : State → Prop) (ls : Array Slot),
      p.tables.exec = Jvm.exec → c.code = cc → c.maxLocals = maxL → (∀ w ∈ ws, w.before args s = true) → s.vm.findClass own = some m.cls → (∀ q : Nat, s.heap.size ≤ q → A q) → va_K G.1 vwCl (gT G) s → st_X G A s s.heap →
      (∀ (pc : Nat) (ls : Array Slot) (H : Heap) (locs : List Loc) (r : Int32) (u : S), decode cc pc = .ok (.ireturn, 1) → (r = 0 ∨ r = 1) → post r u → va_P G.1 vwCl (wv u) H → va_D A (wv u) → va_S A s.heap H locs → W p l e rm s m args below meth c H locs 0 0 Q (F0 m pc ls [.int r])) →
      lv_has ls maxL (lv_args 0 av) → va_P G.1 vwCl w s.heap → va_D A w → va_S A s.heap s.heap [] → W p l e rm s m args below meth c s.heap [] 0 0 Q (F0 m 0 ls [])) : MetI l y ws rm av G w sz wv post := by
  refine Met.ofW (cc := cc) (maxL := maxL) (ret := some .boolean) hy hw ?_
  intro p e s m args below meth c s₁ B hml hv
  obtain ⟨rfl, hsz, hP, hK, hD0, hX⟩ := hv
  have hx := B.exec
  have hb := B.bytes
  have hr := B.returns
  have hts := atoms_spec (ws := ws) B.pre
  have hown : s.vm.findClass own = some m.cls := by rw [← ho]; exact findClass_of_methodNamed B.named
  have hlocks := B.notSynchronized
  subst hsz
  have hl := lv_entry av (n := maxL) hlen
  rw [lg_entry_eq]
  refine body p e s m _ below meth c (va_A w s.heap.size) _ _ hx hb hml hts hown (fun q h => Or.inr h) hK hX ?_ hl hP hD0.self va_S.rf
  intro pc ls H locs r u hd h01 hp hP hD hS
  exact W.zret hx hb hr (by rcases h01 with rfl | rfl <;> rfl) (fun t ht hW => ⟨⟨r, u, rfl, hp, by rw [ht]; exact hP, va_K.moved hW.alike hK, hD⟩, hS.F ht⟩) hS.2.2 hd
theorem ent_v {l : Launch} {y : MethodName} {ws : List Cond} (ws' : List Cond) {rm : Room} (cc : ByteArray) (maxL : Nat) {av : List Value} {G : gG} {w : va_W} {sz : Nat} {S : Type} {wv : S → va_W} {post : S → Prop} (own : String)
    (hy : plainName y.cls = true) (ho : y.cls = own) (hw : ws = Cond.code y cc maxL none :: ws') (hlen : (lg_sl av).length ≤ maxL)
    (body : ∀ (p : Program) (e : Env) (s : State) (m : MethodId) (args : Array Value) (below : List Frame) (meth : Method) (c : Code) (A : Nat → Prop) (Q : State → Prop) (ls : Array Slot),
      p.tables.exec = Jvm.exec → c.code = cc → c.maxLocals = maxL → (∀ w ∈ ws, w.before args s = true) → s.vm.findClass own = some m.cls → (∀ q : Nat, s.heap.size ≤ q → A q) → va_K G.1 vwCl (gT G) s → st_X G A s s.heap →
      (∀ (pc : Nat) (ls : Array Slot) (H : Heap) (locs : List Loc) (u : S), decode cc pc = .ok (.return_, 1) → post u → va_P G.1 vwCl (wv u) H → va_D A (wv u) → va_S A s.heap H locs → W p l e rm s m args below meth c H locs 0 0 Q (F0 m pc ls [])) →
      lv_has ls maxL (lv_args 0 av) → va_P G.1 vwCl w s.heap → va_D A w → va_S A s.heap s.heap [] → W p l e rm s m args below meth c s.heap [] 0 0 Q (F0 m 0 ls [])) : MetV l y ws rm av G w sz wv post := by
  refine Met.ofW (cc := cc) (maxL := maxL) (ret := none) hy hw ?_
  intro p e s m args below meth c s₁ B hml hv
  obtain ⟨rfl, hsz, hP, hK, hD0, hX⟩ := hv
  have hx := B.exec
  have hb := B.bytes
  have hr := B.returns
  have hts := atoms_spec (ws := ws) B.pre
  have hown : s.vm.findClass own = some m.cls := by rw [← ho]; exact findClass_of_methodNamed B.named
  have hlocks := B.notSynchronized
  subst hsz
  have hl := lv_entry av (n := maxL) hlen
  rw [lg_entry_eq]
  refine body p e s m _ below meth c (va_A w s.heap.size) _ _ hx hb hml hts hown (fun q h => Or.inr h) hK hX ?_ hl hP hD0.self va_S.rf
  intro pc ls H locs u hd hp hP hD hS
  exact W.vret hx hb hr (fun t ht hW => ⟨⟨u, rfl, hp, by rw [ht]; exact hP, va_K.moved hW.alike hK, hD⟩, hS.F ht⟩) hS.2.2 hd
theorem fm_of {α : Type} {is : List Nat} {w wc : List α} (h : is.map (fun i => w[i]?) = wc.map some) : is.filterMap (fun i => w[i]?) = wc := by
  have e : is.filterMap (fun i => w[i]?) = (is.map (fun i => w[i]?)).filterMap id := by rw [List.filterMap_map]; rfl
  rw [e, h, List.filterMap_map]
  exact List.filterMap_some
section RWS
variable {p : Program} {l : Launch} {e : Env} {R : Room} {s : State} {m : MethodId} {args : Array Value} {below : List Frame} {meth : Method} {c : Code} {H : Heap} {locs : List Loc} {cells slots : Nat} {Q : State → Prop}
variable {cc : ByteArray} {pc : Nat} {ls : Array Slot} {rest : List Value} {G : gG} {A : Nat → Prop} {a : Nat} {w : va_W}
theorem cP_blind (av : List Value) (wc : va_W) (sz : Nat) : FrameBlind (va_Pc av (cP G wc sz)) := by
  intro a U g mk q
  obtain ⟨q0, q1, qP, qK, qD, qX⟩ := q
  exact ⟨q0, q1, qP, va_K.moved (u := U) (U := U.calling g mk a) (Vm.Alike.refl U.vm) qK, qD, qX.calling g mk a⟩
theorem cP_at {wc : va_W} (av : List Value) (hK : va_K G.1 vwCl (gT G) s) (hX : st_X G A s s.heap) (hA : ∀ q : Nat, s.heap.size ≤ q → A q) (hP : va_P G.1 vwCl w H) (hD : va_D A w) (hS : va_S A s.heap H locs) (isC : List Nat) (hC : isC.map (fun i => w[i]?) = wc.map some) (hnC : va_nd isC = true) :
    ∀ U : State, U.heap = H → s.WarmedH U.vm → va_Pc av (cP G wc H.size) av.toArray U := by
  intro U hU hW
  have hF := va_free (wc := wc) hD hS hA isC hC
  refine ⟨rfl, by rw [hU], ?_, va_K.moved hW.alike hK, (hD.sub isC hnC hC).weaken (fun _ _ _ _ => trivial), ?_⟩
  · rw [hU]; exact hP.sub isC (fm_of hC)
  · rw [hU]; exact hX.go hW (fun q h1 h2 => hS.2.1 q h1 h2) hF
theorem aft_i {S : Type} {post : Int32 → S → Prop} {wv : S → va_W} {wc wr : va_W} {st0 : List Value} {ar : Array Value} (hA : ∀ q : Nat, s.heap.size ≤ q → A q) (hP : va_P G.1 vwCl w H) (hD : va_D A w) (hS : va_S A s.heap H locs) (isC isR : List Nat) (hC : isC.map (fun i => w[i]?) = wc.map some) (hR : isR.map (fun i => w[i]?) = wr.map some) (hn : va_nd isR = true) (hdis : ∀ i ∈ isR, i ∉ isC)
    (hr : va_Run p l e R s m args below meth c H locs cells slots 0 0 (F0 m pc ls st0) rest (va_Qi post (cB G wc H.size wv) (va_A wc H.size) ar) (va_A wc H.size))
    (kk : ∀ (r : Int32) (u : S) (H1 : Heap) (locs1 : List Loc), post r u → va_P G.1 vwCl (wr ++ wv u) H1 → va_D A (wr ++ wv u) → va_S A s.heap H1 locs1 → W p l e R s m args below meth c H1 locs1 cells slots Q (F0 m (pc + 3) ls (.int r :: rest))) : W p l e R s m args below meth c H locs cells slots Q (F0 m pc ls st0) := by
  have hF := va_free (wc := wc) hD hS hA isC hC
  refine va_calli hr hS (fun q _ h => hF q h) hF (fun r u t H1 locs1 ht hvm hw hB hz1 hk1 hS1 => ?_)
  obtain ⟨hP1, hK1, hD1⟩ := hB
  rw [ht] at hP1
  obtain ⟨hP2, hD2⟩ := va_join hP hD isC isR hC hR hn hdis hk1 hF hP1 hD1
  exact kk r u H1 locs1 hw hP2 hD2 hS1
theorem aft_v {S : Type} {post : S → Prop} {wv : S → va_W} {wc wr : va_W} {st0 : List Value} {ar : Array Value} (hA : ∀ q : Nat, s.heap.size ≤ q → A q) (hP : va_P G.1 vwCl w H) (hD : va_D A w) (hS : va_S A s.heap H locs) (isC isR : List Nat) (hC : isC.map (fun i => w[i]?) = wc.map some) (hR : isR.map (fun i => w[i]?) = wr.map some) (hn : va_nd isR = true) (hdis : ∀ i ∈ isR, i ∉ isC)
    (hr : va_Run p l e R s m args below meth c H locs cells slots 0 0 (F0 m pc ls st0) rest (va_Qv post (cB G wc H.size wv) (va_A wc H.size) ar) (va_A wc H.size))
    (kk : ∀ (u : S) (H1 : Heap) (locs1 : List Loc), post u → va_P G.1 vwCl (wr ++ wv u) H1 → va_D A (wr ++ wv u) → va_S A s.heap H1 locs1 → W p l e R s m args below meth c H1 locs1 cells slots Q (F0 m (pc + 3) ls rest)) : W p l e R s m args below meth c H locs cells slots Q (F0 m pc ls st0) := by
  have hF := va_free (wc := wc) hD hS hA isC hC
  refine va_callv hr hS (fun q _ h => hF q h) hF (fun u t H1 locs1 ht hvm hw hB hz1 hk1 hS1 => ?_)
  obtain ⟨hP1, hK1, hD1⟩ := hB
  rw [ht] at hP1
  obtain ⟨hP2, hD2⟩ := va_join hP hD isC isR hC hR hn hdis hk1 hF hP1 hD1
  exact kk u H1 locs1 hw hP2 hD2 hS1
variable {y : MethodName} {bytes : ByteArray} {maxL nL n index : Nat} {ret : Option FieldType} {ws : List Cond} {rm : Room} {Ts : List Cond} {own C host : String} {b : Addr} {S : Type} {wv : S → va_W} {wc wr : va_W}
/-- calls: the callee's cells are those of the places isC, the others' places isR -/
theorem call_Vi {post : Int32 → S → Prop} (As rest : List Value) (sx : CallFix p m c cc nL s args Ts own) (hK : va_K G.1 vwCl (gT G) s) (hX : st_X G A s s.heap) (hA : ∀ q : Nat, s.heap.size ≤ q → A q) (hP : va_P G.1 vwCl w H) (hD : va_D A w) (hS : va_S A s.heap H locs)
    (hM : MetI l y ws rm (.ref b :: As) G wc H.size wv post) (cw : CallW R s args own C index y bytes maxL ret ws rm 0 0 n) (ci q0 : Nat) {q : vw_C} {fs : List Value} (hc : vwCl[ci]? = some q) (hq : q.1 = C) (he : w[q0]? = some (b, .inr (ci, fs)))
    (isC isR : List Nat) (hC : isC.map (fun i => w[i]?) = wc.map some) (hR : isR.map (fun i => w[i]?) = wr.map some) (hnC : va_nd isC = true) (hn : va_nd isR = true) (hdis : ∀ i ∈ isR, i ∉ isC)
    (hln : As.length = n) (hsize : ls.size = nL) (hW : (rest.map fun v => v.category).sum ≤ 8) (hdg : decode cc pc = .ok (.invokevirtual index, 3)) (hf : cells ≤ R.cells ∧ slots ≤ R.slots)
    (kk : ∀ (r : Int32) (u : S) (H1 : Heap) (locs1 : List Loc), post r u → va_P G.1 vwCl (wr ++ wv u) H1 → va_D A (wr ++ wv u) → va_S A s.heap H1 locs1 → W p l e R s m args below meth c H1 locs1 cells slots Q (F0 m (pc + 3) ls (.int r :: rest))) : W p l e R s m args below meth c H locs cells slots Q (F0 m pc ls (As.reverse ++ .ref b :: rest)) := by
  refine aft_i hA hP hD hS isC isR hC hR hn hdis (va_runV (As := As) (rest := rest) sx hM cw ⟨cP_blind _ _ _, ?_, cP_at (.ref b :: As) hK hX hA hP hD hS isC hC hnC⟩ rfl hln hsize rfl (lv_room hW) hdg hf) kk
  rw [← hq]; exact va_recv hK hP hc he
theorem call_Vv {post : S → Prop} (As rest : List Value) (sx : CallFix p m c cc nL s args Ts own) (hK : va_K G.1 vwCl (gT G) s) (hX : st_X G A s s.heap) (hA : ∀ q : Nat, s.heap.size ≤ q → A q) (hP : va_P G.1 vwCl w H) (hD : va_D A w) (hS : va_S A s.heap H locs)
    (hM : MetV l y ws rm (.ref b :: As) G wc H.size wv post) (cw : CallW R s args own C index y bytes maxL ret ws rm 0 0 n) (ci q0 : Nat) {q : vw_C} {fs : List Value} (hc : vwCl[ci]? = some q) (hq : q.1 = C) (he : w[q0]? = some (b, .inr (ci, fs)))
    (isC isR : List Nat) (hC : isC.map (fun i => w[i]?) = wc.map some) (hR : isR.map (fun i => w[i]?) = wr.map some) (hnC : va_nd isC = true) (hn : va_nd isR = true) (hdis : ∀ i ∈ isR, i ∉ isC)
    (hln : As.length = n) (hsize : ls.size = nL) (hW : (rest.map fun v => v.category).sum ≤ 8) (hdg : decode cc pc = .ok (.invokevirtual index, 3)) (hf : cells ≤ R.cells ∧ slots ≤ R.slots)
    (kk : ∀ (u : S) (H1 : Heap) (locs1 : List Loc), post u → va_P G.1 vwCl (wr ++ wv u) H1 → va_D A (wr ++ wv u) → va_S A s.heap H1 locs1 → W p l e R s m args below meth c H1 locs1 cells slots Q (F0 m (pc + 3) ls rest)) : W p l e R s m args below meth c H locs cells slots Q (F0 m pc ls (As.reverse ++ .ref b :: rest)) := by
  refine aft_v hA hP hD hS isC isR hC hR hn hdis (va_runV (As := As) (rest := rest) sx hM cw ⟨cP_blind _ _ _, ?_, cP_at (.ref b :: As) hK hX hA hP hD hS isC hC hnC⟩ rfl hln hsize rfl (lv_room hW) hdg hf) kk
  rw [← hq]; exact va_recv hK hP hc he
theorem call_Si {post : Int32 → S → Prop} (As rest : List Value) (sx : CallFix p m c cc nL s args Ts own) (hK : va_K G.1 vwCl (gT G) s) (hX : st_X G A s s.heap) (hA : ∀ q : Nat, s.heap.size ≤ q → A q) (hP : va_P G.1 vwCl w H) (hD : va_D A w) (hS : va_S A s.heap H locs)
    (hM : MetI l y ws rm As G wc H.size wv post) (cw : CallB R s args own index y bytes maxL ret ws rm 0 0 n ∧ (Cond.static y).before args s = true)
    (isC isR : List Nat) (hC : isC.map (fun i => w[i]?) = wc.map some) (hR : isR.map (fun i => w[i]?) = wr.map some) (hnC : va_nd isC = true) (hn : va_nd isR = true) (hdis : ∀ i ∈ isR, i ∉ isC)
    (hln : As.length = n) (hsize : ls.size = nL) (hW : (rest.map fun v => v.category).sum ≤ 8) (hdg : decode cc pc = .ok (.invokestatic index, 3)) (hf : cells ≤ R.cells ∧ slots ≤ R.slots)
    (kk : ∀ (r : Int32) (u : S) (H1 : Heap) (locs1 : List Loc), post r u → va_P G.1 vwCl (wr ++ wv u) H1 → va_D A (wr ++ wv u) → va_S A s.heap H1 locs1 → W p l e R s m args below meth c H1 locs1 cells slots Q (F0 m (pc + 3) ls (.int r :: rest))) : W p l e R s m args below meth c H locs cells slots Q (F0 m pc ls (As.reverse ++ rest)) :=
  aft_i hA hP hD hS isC isR hC hR hn hdis (va_runS (As := As) (rest := rest) sx hM cw ⟨cP_blind _ _ _, cP_at As hK hX hA hP hD hS isC hC hnC⟩ rfl hln hsize rfl (lv_room hW) hdg hf) kk
theorem call_Sv {post : S → Prop} (As rest : List Value) (sx : CallFix p m c cc nL s args Ts own) (hK : va_K G.1 vwCl (gT G) s) (hX : st_X G A s s.heap) (hA : ∀ q : Nat, s.heap.size ≤ q → A q) (hP : va_P G.1 vwCl w H) (hD : va_D A w) (hS : va_S A s.heap H locs)
    (hM : MetV l y ws rm As G wc H.size wv post) (cw : CallB R s args own index y bytes maxL ret ws rm 0 0 n ∧ (Cond.static y).before args s = true)
    (isC isR : List Nat) (hC : isC.map (fun i => w[i]?) = wc.map some) (hR : isR.map (fun i => w[i]?) = wr.map some) (hnC : va_nd isC = true) (hn : va_nd isR = true) (hdis : ∀ i ∈ isR, i ∉ isC)
    (hln : As.length = n) (hsize : ls.size = nL) (hW : (rest.map fun v => v.category).sum ≤ 8) (hdg : decode cc pc = .ok (.invokestatic index, 3)) (hf : cells ≤ R.cells ∧ slots ≤ R.slots)
    (kk : ∀ (u : S) (H1 : Heap) (locs1 : List Loc), post u → va_P G.1 vwCl (wr ++ wv u) H1 → va_D A (wr ++ wv u) → va_S A s.heap H1 locs1 → W p l e R s m args below meth c H1 locs1 cells slots Q (F0 m (pc + 3) ls rest)) : W p l e R s m args below meth c H locs cells slots Q (F0 m pc ls (As.reverse ++ rest)) :=
  aft_v hA hP hD hS isC isR hC hR hn hdis (va_runS (As := As) (rest := rest) sx hM cw ⟨cP_blind _ _ _, cP_at As hK hX hA hP hD hS isC hC hnC⟩ rfl hln hsize rfl (lv_room hW) hdg hf) kk
/-- a static method of a nest mate that touches no cell -/
theorem call_Ni {post : Int32 → S → Prop} (As rest : List Value) (sx : CallFix p m c cc nL s args Ts own) (hK : va_K G.1 vwCl (gT G) s) (hX : st_X G A s s.heap) (hA : ∀ q : Nat, s.heap.size ≤ q → A q) (hP : va_P G.1 vwCl w H) (hD : va_D A w) (hS : va_S A s.heap H locs)
    (hM : MetI l y ws rm As G wc H.size wv post) (cw : va_CN R s args own index y host bytes maxL ret ws rm 0 0 n ∧ (Cond.static y).before args s = true ∧ True)
    (isC isR : List Nat) (hC : isC.map (fun i => w[i]?) = wc.map some) (hR : isR.map (fun i => w[i]?) = wr.map some) (hnC : va_nd isC = true) (hn : va_nd isR = true) (hdis : ∀ i ∈ isR, i ∉ isC)
    (hln : As.length = n) (hsize : ls.size = nL) (hW : (rest.map fun v => v.category).sum ≤ 8) (hdg : decode cc pc = .ok (.invokestatic index, 3)) (hf : cells ≤ R.cells ∧ slots ≤ R.slots)
    (kk : ∀ (r : Int32) (u : S) (H1 : Heap) (locs1 : List Loc), post r u → va_P G.1 vwCl (wr ++ wv u) H1 → va_D A (wr ++ wv u) → va_S A s.heap H1 locs1 → W p l e R s m args below meth c H1 locs1 cells slots Q (F0 m (pc + 3) ls (.int r :: rest))) : W p l e R s m args below meth c H locs cells slots Q (F0 m pc ls (As.reverse ++ rest)) :=
  aft_i hA hP hD hS isC isR hC hR hn hdis (va_runSN (As := As) (rest := rest) sx hM cw ⟨cP_blind _ _ _, cP_at As hK hX hA hP hD hS isC hC hnC⟩ rfl hln hsize rfl (lv_room hW) hdg hf) kk
/-- the number on top by another name -/
theorem top_i {x : Int32} (v : Int32) (h : x = v) (k : W p l e R s m args below meth c H locs cells slots Q (F0 m pc ls (.int v :: rest))) : W p l e R s m args below meth c H locs cells slots Q (F0 m pc ls (.int x :: rest)) := h ▸ k
theorem top_2 {x : Int32} {z : Value} (v : Int32) (h : x = v) (k : W p l e R s m args below meth c H locs cells slots Q (F0 m pc ls (z :: .int v :: rest))) : W p l e R s m args below meth c H locs cells slots Q (F0 m pc ls (z :: .int x :: rest)) := h ▸ k
theorem cl_nI {n N : Nat} (h : n < N) (hN : N ≤ 2147483648) : (nI n).toNatClampNeg = n := nI_clamp (by omega)
theorem rd_i (hexec : p.tables.exec = Jvm.exec) (hb : c.code = cc) (hK : va_K G.1 vwCl (gT G) s) (hP : va_P G.1 vwCl w H) (q0 : Nat) {N : Nat} {f : Nat → Int32} (ha : w[q0]? = some (a, .inl (G.2.2.1, N, .inl f))) (k : Nat) (hk : k < N) (hN : N ≤ 65536) (hdg : decode cc pc = .ok (.iaload, 1))
    (kk : W p l e R s m args below meth c H locs cells slots Q (F0 m (pc + 1) ls (.int (f k) :: rest))) : W p l e R s m args below meth c H locs cells slots Q (F0 m pc ls (.int (nI k) :: .ref a :: rest)) := by
  refine va_iald hexec hb hK hP q0 0 ha rfl (vp_in_nI hk (by omega)) hdg ?_
  rw [cl_nI hk (by omega)]; exact kk
theorem wr_i (hexec : p.tables.exec = Jvm.exec) (hb : c.code = cc) (hK : va_K G.1 vwCl (gT G) s) (hP : va_P G.1 vwCl w H) (hD : va_D A w) (hS : va_S A s.heap H locs) (q0 : Nat) {N : Nat} {f : Nat → Int32} (ha : w[q0]? = some (a, .inl (G.2.2.1, N, .inl f))) (k : Nat) {x : Int32} (hk : k < N) (hN : N ≤ 65536) (hdg : decode cc pc = .ok (.iastore, 1))
    (kk : ∀ (H1 : Heap) (locs1 : List Loc), va_P G.1 vwCl (w.set q0 (a, .inl (G.2.2.1, N, .inl (upd f k x)))) H1 → va_D A (w.set q0 (a, .inl (G.2.2.1, N, .inl (upd f k x)))) → va_S A s.heap H1 locs1 → W p l e R s m args below meth c H1 locs1 cells slots Q (F0 m (pc + 1) ls rest)) : W p l e R s m args below meth c H locs cells slots Q (F0 m pc ls (.int x :: .int (nI k) :: .ref a :: rest)) := by
  refine va_iast hexec hb hK hP hD hS q0 0 ha rfl (vp_in_nI hk (by omega)) hdg ?_
  rw [cl_nI hk (by omega)]; exact kk
theorem rd_z (hexec : p.tables.exec = Jvm.exec) (hb : c.code = cc) (hK : va_K G.1 vwCl (gT G) s) (hP : va_P G.1 vwCl w H) (q0 : Nat) {N : Nat} {f : Nat → Int32} (ha : w[q0]? = some (a, .inl (G.2.2.2, N, .inl f))) (k : Nat) (hk : k < N) (hN : N ≤ 65536) (hdg : decode cc pc = .ok (.baload, 1))
    (kk : W p l e R s m args below meth c H locs cells slots Q (F0 m (pc + 1) ls (.int (f k) :: rest))) : W p l e R s m args below meth c H locs cells slots Q (F0 m pc ls (.int (nI k) :: .ref a :: rest)) := by
  refine va_zald hexec hb hK hP q0 1 ha rfl (vp_in_nI hk (by omega)) hdg ?_
  rw [cl_nI hk (by omega)]; exact kk
theorem cmp_lt (hexec : p.tables.exec = Jvm.exec) (hb : c.code = cc) (x y : Nat) {off : Int} (tgt : Nat) (hx : x < 2147483648) (hy : y < 2147483648) (hdg : decode cc pc = .ok (.if_icmp .lt off, 3)) (ht : (pc : Int) + off = (tgt : Int)) (kt : x < y → W p l e R s m args below meth c H locs cells slots Q (F0 m tgt ls rest)) (kf : y ≤ x → W p l e R s m args below meth c H locs cells slots Q (F0 m (pc + 3) ls rest)) : W p l e R s m args below meth c H locs cells slots Q (F0 m pc ls (.int (nI y) :: .int (nI x) :: rest)) :=
  lv_icmp_lt hexec hb hdg ht (fun h => kt ((nI_ltI hx hy).mp h)) (fun h => kf (Nat.le_of_not_lt fun q => h ((nI_ltI hx hy).mpr q)))
theorem cmp_ge (hexec : p.tables.exec = Jvm.exec) (hb : c.code = cc) (x y : Nat) {off : Int} (tgt : Nat) (hx : x < 2147483648) (hy : y < 2147483648) (hdg : decode cc pc = .ok (.if_icmp .ge off, 3)) (ht : (pc : Int) + off = (tgt : Int)) (kt : y ≤ x → W p l e R s m args below meth c H locs cells slots Q (F0 m tgt ls rest)) (kf : x < y → W p l e R s m args below meth c H locs cells slots Q (F0 m (pc + 3) ls rest)) : W p l e R s m args below meth c H locs cells slots Q (F0 m pc ls (.int (nI y) :: .int (nI x) :: rest)) :=
  lv_icmp_ge hexec hb hdg ht (fun h => kt ((nI_leI hy hx).mp h)) (fun h => kf (Nat.lt_of_not_le fun q => h ((nI_leI hy hx).mpr q)))
theorem cmp_gt (hexec : p.tables.exec = Jvm.exec) (hb : c.code = cc) (x y : Nat) {off : Int} (tgt : Nat) (hx : x < 2147483648) (hy : y < 2147483648) (hdg : decode cc pc = .ok (.if_icmp .gt off, 3)) (ht : (pc : Int) + off = (tgt : Int)) (kt : y < x → W p l e R s m args below meth c H locs cells slots Q (F0 m tgt ls rest)) (kf : x ≤ y → W p l e R s m args below meth c H locs cells slots Q (F0 m (pc + 3) ls rest)) : W p l e R s m args below meth c H locs cells slots Q (F0 m pc ls (.int (nI y) :: .int (nI x) :: rest)) :=
  lv_icmp_gt hexec hb hdg ht (fun h => kt ((nI_ltI hy hx).mp h)) (fun h => kf (Nat.le_of_not_lt fun q => h ((nI_ltI hy hx).mpr q)))
theorem cmp_le (hexec : p.tables.exec = Jvm.exec) (hb : c.code = cc) (x y : Nat) {off : Int} (tgt : Nat) (hx : x < 2147483648) (hy : y < 2147483648) (hdg : decode cc pc = .ok (.if_icmp .le off, 3)) (ht : (pc : Int) + off = (tgt : Int)) (kt : x ≤ y → W p l e R s m args below meth c H locs cells slots Q (F0 m tgt ls rest)) (kf : y < x → W p l e R s m args below meth c H locs cells slots Q (F0 m (pc + 3) ls rest)) : W p l e R s m args below meth c H locs cells slots Q (F0 m pc ls (.int (nI y) :: .int (nI x) :: rest)) :=
  lv_icmp_le hexec hb hdg ht (fun h => kt ((nI_leI hx hy).mp h)) (fun h => kf (Nat.lt_of_not_le fun q => h ((nI_leI hx hy).mpr q)))
theorem cmp_eq (hexec : p.tables.exec = Jvm.exec) (hb : c.code = cc) (x y : Nat) {off : Int} (tgt : Nat) (hx : x < 2147483648) (hy : y < 2147483648) (hdg : decode cc pc = .ok (.if_icmp .eq off, 3)) (ht : (pc : Int) + off = (tgt : Int)) (kt : x = y → W p l e R s m args below meth c H locs cells slots Q (F0 m tgt ls rest)) (kf : x ≠ y → W p l e R s m args below meth c H locs cells slots Q (F0 m (pc + 3) ls rest)) : W p l e R s m args below meth c H locs cells slots Q (F0 m pc ls (.int (nI y) :: .int (nI x) :: rest)) :=
  lv_icmp_eq hexec hb hdg ht (fun h => kt ((nI_eq hx hy).mp h)) (fun h => kf fun q => h ((nI_eq hx hy).mpr q))
theorem cmp_ne (hexec : p.tables.exec = Jvm.exec) (hb : c.code = cc) (x y : Nat) {off : Int} (tgt : Nat) (hx : x < 2147483648) (hy : y < 2147483648) (hdg : decode cc pc = .ok (.if_icmp .ne off, 3)) (ht : (pc : Int) + off = (tgt : Int)) (kt : x ≠ y → W p l e R s m args below meth c H locs cells slots Q (F0 m tgt ls rest)) (kf : x = y → W p l e R s m args below meth c H locs cells slots Q (F0 m (pc + 3) ls rest)) : W p l e R s m args below meth c H locs cells slots Q (F0 m pc ls (.int (nI y) :: .int (nI x) :: rest)) :=
  lv_icmp_ne hexec hb hdg ht (fun h => kt fun q => h ((nI_eq hx hy).mpr q)) (fun h => kf ((nI_eq hx hy).mp h))
end RWS
