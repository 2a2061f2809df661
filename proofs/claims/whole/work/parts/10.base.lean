/-! words: those of lw_tbl that a call keeps; the nest mates' links apart -/
def TB : List Cond := lw_tbl.filter goodWord
theorem tb_in {w : Cond} (h : w ∈ TB) : w ∈ lw_tbl := (List.mem_filter.mp h).1
theorem tb_good {w : Cond} (h : w ∈ TB) : (w.onTables && w.keeps) = true ∨ ∃ ty, w = .arrayClass ty := good_of_word (List.mem_filter.mp h).2
theorem tb_mk {w : Cond} (i : Nat) (h : lw_tbl[i]? = some w) (hg : goodWord w = true) : w ∈ TB := List.mem_filter.mpr ⟨List.mem_of_getElem? h, hg⟩
def isNest : Cond → Bool
  | .fieldLinkNest .. => true
  | .methodLinkNest .. => true
  | _ => false
def NL : List Cond := lw_tbl.filter isNest
theorem nl_mk {w : Cond} (i : Nat) (h : lw_tbl[i]? = some w) (hg : isNest w = true) : w ∈ NL := List.mem_filter.mpr ⟨List.mem_of_getElem? h, hg⟩
def NW (U : State) : Prop := ∀ w ∈ NL, va_Nw w U
theorem NW.warm {s U : State} (hW : s.WarmedH U.vm) (h : NW s) : NW U := by
  intro w hw
  have hn := (List.mem_filter.mp hw).2
  have h1 := h w hw
  cases w <;> first | (exact va_Nw.warmF hW h1) | (exact va_Nw.warmM hW h1) | (exact absurd hn (by simp [isNest]))
theorem NW.same {s U : State} (e : s.vm = U.vm) (h : NW s) : NW U := by
  intro w hw
  have hn := (List.mem_filter.mp hw).2
  have h1 := h w hw
  refine va_Nw.same ?_ e h1
  cases w <;> first | rfl | (exact absurd hn (by simp [isNest]))
/-! a world that stands, bundled -/
def ZZ (D : va_G) (cI : ClassId) (ws : va_W) (A : Nat → Prop) (s : State) (H : Heap) (locs : List Loc) : Prop :=
  va_P D vwCl ws H ∧ va_D A ws ∧ va_S A s.heap H locs ∧ va_K D vwCl [(cI, .int)] s ∧ NW s ∧ (∀ q, s.heap.size ≤ q → A q)
def PRE (D : va_G) (cI : ClassId) (ws : va_W) (sz : Nat) : State → Prop := fun U => U.heap.size = sz ∧ va_P D vwCl ws U.heap ∧ va_K D vwCl [(cI, .int)] U ∧ va_D (fun _ => True) ws ∧ NW U
def PB (D : va_G) (cI : ClassId) (ws : va_W) (A : Nat → Prop) (t : State) : Prop := va_P D vwCl ws t.heap ∧ va_K D vwCl [(cI, .int)] t ∧ va_D A ws
def QQ (D : va_G) (cI : ClassId) (ws : va_W) (A : Nat → Prop) (o : Option Value) : Array Value → State → Outcome → State → Prop := fun _ st oc t => oc = .returned o ∧ PB D cI ws A t ∧ va_F A st t
/-- a contract: world ws becomes ws', the answer is o; no cell comes -/
def MI (l : Launch) (D : va_G) (cI : ClassId) (y : MethodName) (k : Cond) (rm : Room) (As : List Value) (ws ws' : va_W) (o : Option Value) : Prop :=
  ∀ sz, Met l y (k :: TB) rm (va_Pc As (PRE D cI ws sz)) (QQ D cI ws' (va_A ws sz) o) 0 0 (va_A ws sz)
theorem pre_blind {D : va_G} {cI : ClassId} {ws : va_W} {sz : Nat} {As : List Value} : FrameBlind (va_Pc As (PRE D cI ws sz)) := by
  intro a U g mk q
  obtain ⟨q0, q1, qP, qK, qD, qN⟩ := q
  exact ⟨q0, q1, qP, va_K.moved (u := U) (U := U.calling g mk a) (Vm.Alike.refl U.vm) qK, qD, NW.same (s := U) rfl qN⟩
/-! the words of a call -/
def WV (own : String) (idx : Nat) (C : String) (y : MethodName) (k : Cond) : Prop := Cond.methodLink own idx y ∈ TB ∧ Cond.instanceMethod y ∈ TB ∧ Cond.selects C y y ∈ TB ∧ Cond.initialized C ∈ TB ∧ k ∈ TB
def WS (own : String) (idx : Nat) (y : MethodName) (k : Cond) : Prop := Cond.methodLink own idx y ∈ TB ∧ Cond.static y ∈ TB ∧ Cond.initialized own ∈ TB ∧ k ∈ TB
def WN (own : String) (idx : Nat) (C : String) (y : MethodName) (k : Cond) (host : String) : Prop := Cond.methodLinkNest own idx y host ∈ NL ∧ Cond.instanceMethod y ∈ TB ∧ Cond.selects C y y ∈ TB ∧ Cond.initialized y.cls ∈ TB ∧ k ∈ TB
theorem good_k {Ts : List Cond} {k : Cond} (hTs : ∀ w ∈ TB, w ∈ Ts) (hk : k ∈ TB) : GoodIn Ts (k :: TB) := by
  intro w hw
  rcases List.mem_cons.mp hw with rfl | h
  · exact ⟨hTs _ hk, tb_good hk⟩
  · exact ⟨hTs _ h, tb_good h⟩
theorem good_V {Ts : List Cond} {own C : String} {idx : Nat} {y : MethodName} {k : Cond} (hTs : ∀ w ∈ TB, w ∈ Ts) (h : WV own idx C y k) : GoodIn Ts (wsV own idx C y (k :: TB)) := by
  obtain ⟨h1, h2, h3, h4, h5⟩ := h
  intro w hw
  unfold wsV at hw
  rcases List.mem_append.mp hw with hw | hw
  · have : w ∈ TB := by
      simp only [List.mem_cons, List.not_mem_nil, or_false] at hw
      rcases hw with rfl | rfl | rfl | rfl <;> assumption
    exact ⟨hTs _ this, tb_good this⟩
  · exact good_k hTs h5 w hw
theorem good_S {Ts : List Cond} {own : String} {idx : Nat} {y : MethodName} {k : Cond} (hTs : ∀ w ∈ TB, w ∈ Ts) (h : WS own idx y k) : GoodIn Ts (wsS own idx y (k :: TB)) := by
  obtain ⟨h1, h2, h3, h5⟩ := h
  intro w hw
  unfold wsS at hw
  rcases List.mem_append.mp hw with hw | hw
  · have : w ∈ TB := by
      simp only [List.mem_cons, List.not_mem_nil, or_false] at hw
      rcases hw with rfl | rfl | rfl <;> assumption
    exact ⟨hTs _ this, tb_good this⟩
  · exact good_k hTs h5 w hw
theorem fm_of_map {α β : Type} {f : α → Option β} {is : List α} {w : List β} (h : is.map f = w.map some) : is.filterMap f = w := by
  induction is generalizing w with
  | nil => cases w with
    | nil => rfl
    | cons a w => simp at h
  | cons i is ih => cases w with
    | nil => simp at h
    | cons a w =>
      simp only [List.map_cons, List.cons.injEq] at h
      rw [List.filterMap_cons, h.1]
      simp only [ih h.2]
theorem rng_map (w : va_W) : (List.range w.length).map (fun i => w[i]?) = w.map some := by
  apply List.ext_getElem?
  intro k
  by_cases hk : k < w.length
  · simp [hk]
  · simp [Nat.le_of_not_lt hk]
section BASE
variable {p : Program} {l : Launch} {e : Env} {R : Room} {s : State} {m : MethodId} {args : Array Value} {below : List Frame} {meth : Method} {c : Code} {H : Heap} {locs : List Loc} {cells slots : Nat} {Q : State → Prop}
variable {cc : ByteArray} {nL pc : Nat} {ls : Array Slot} {rest st0 : List Value} {D : va_G} {cI : ClassId} {A A1 : Nat → Prop} {ws wc wr w1 ws' : va_W} {Ts : List Cond} {own C : String} {mc ms : Nat}
theorem ZZ.perm (Z : ZZ D cI ws A s H locs) (is : List Nat) (hn : va_nd is = true) (hs : is.map (fun i => ws[i]?) = ws'.map some) : ZZ D cI ws' A s H locs :=
  ⟨Z.1.sub is (fm_of_map hs), Z.2.1.sub is hn hs, Z.2.2⟩
/-- behind a call: the world of the rest, and what the callee left -/
theorem callx {o : Option Value} {a : Array Value} (Z : ZZ D cI ws A s H locs) (isC isR : List Nat) (hC : isC.map (fun i => ws[i]?) = wc.map some) (hR : isR.map (fun i => ws[i]?) = wr.map some) (hn : va_nd isR = true) (hdis : ∀ i ∈ isR, i ∉ isC)
    (hr : va_Run p l e R s m args below meth c H locs cells slots mc ms (F0 m pc ls st0) rest (QQ D cI w1 (va_A wc H.size) o a) (va_A wc H.size))
    (kk : ∀ (H1 : Heap) (locs1 : List Loc), ZZ D cI (wr ++ w1) A s H1 locs1 → W p l e R s m args below meth c H1 locs1 (cells + mc) (slots + ms) Q (F0 m (pc + 3) ls (o.toList ++ rest))) : W p l e R s m args below meth c H locs cells slots Q (F0 m pc ls st0) := by
  obtain ⟨hP, hD, hS, hK, hN, hA⟩ := Z
  have hF := va_free (wc := wc) hD hS hA isC hC
  intro T hT X
  obtain ⟨v, st₀, t, T', L, h0, X', hL, e1, e2, ⟨hv, ⟨hP1, hK1, hD1⟩, hz, hk⟩, st⟩ := hr T hT X
  cases hv
  rw [h0] at hz hk
  rw [← e1] at hP1
  obtain ⟨hP2, hD2⟩ := va_join hP hD isC isR hC hR hn hdis (fun q h1 h2 => by rw [e1]; exact hk q h1 h2) hF hP1 hD1
  obtain ⟨t2, a1, b1⟩ := kk T'.heap (locs ++ L) ⟨hP2, hD2, ⟨Nat.le_trans hS.1 (by rw [e1]; exact hz), fun q h1 h2 => by rw [e1, hk q (Nat.lt_of_lt_of_le h1 hS.1) (fun z => h2 (hF q z))]; exact hS.2.1 q h1 h2, fun q hq => by
      rcases List.mem_append.mp hq with h | h
      · exact hS.2.2 q h
      · exact hF _ (hL q h)⟩, hK, hN, hA⟩ T' rfl X'
  exact ⟨t2, st t2 a1, b1⟩
variable {y : MethodName} {bytes : ByteArray} {maxL index : Nat} {ret : Option FieldType} {rm : Room} {As : List Value} {b ci : Nat} {fs : List Value} {qq : vw_C} {o : Option Value} {host : String}
theorem pre_of (Z : ZZ D cI ws A s H locs) (isC : List Nat) (hC : isC.map (fun i => ws[i]?) = wc.map some) (hnd : va_nd isC = true) : ∀ U : State, U.heap = H → s.WarmedH U.vm → va_Pc As (PRE D cI wc H.size) As.toArray U := by
  intro U hU hW
  exact ⟨rfl, by rw [hU], by rw [hU]; exact Z.1.sub isC (fm_of_map hC), va_K.moved hW.alike Z.2.2.2.1, (Z.2.1.sub isC hnd hC).weaken (fun _ _ _ _ => trivial), Z.2.2.2.2.1.warm hW⟩
theorem pre_all (Z : ZZ D cI ws A s H locs) : ∀ U : State, U.heap = H → s.WarmedH U.vm → va_Pc As (PRE D cI ws H.size) As.toArray U := by
  intro U hU hW
  exact ⟨rfl, by rw [hU], by rw [hU]; exact Z.1, va_K.moved hW.alike Z.2.2.2.1, Z.2.1.weaken (fun _ _ _ _ => trivial), Z.2.2.2.2.1.warm hW⟩
abbrev HD (y : MethodName) (n : Nat) : Prop := y.cls ≠ "java/lang/invoke/MethodHandle" ∧ y.cls ≠ "java/lang/invoke/VarHandle" ∧ (parseMethodDescriptor y.desc).map (fun d => d.parameters.length) = some n
/-- a virtual call over the whole world -/
theorem call_V (X : CallFix p m c cc nL s args Ts own) (hTs : ∀ w ∈ TB, w ∈ Ts) (Z : ZZ D cI ws A s H locs) (k : WV own index qq.1 y (.code y bytes maxL ret)) (hM : MI l D cI y (.code y bytes maxL ret) rm (.ref b :: As) ws ws' o)
    (he : ws[0]? = some (b, .inr (ci, fs))) (hci : vwCl[ci]? = some qq) (hd : y.cls = qq.1 ∧ HD y As.length) (hR : rm.frames + 1 ≤ R.frames ∧ 8 + (maxL + 11) + rm.locals ≤ R.locals) (h0 : rm.cells = 0 ∧ rm.slots = 0)
    (hsize : ls.size = nL) (hst : st0 = As.reverse ++ .ref b :: rest) (hrm : (rest.map fun v => v.category).sum ≤ 8) (hcs : cells ≤ R.cells ∧ slots ≤ R.slots) (hdg : decode cc pc = .ok (.invokevirtual index, 3))
    (kk : ∀ (H1 : Heap) (locs1 : List Loc), ZZ D cI ws' A s H1 locs1 → W p l e R s m args below meth c H1 locs1 cells slots Q (F0 m (pc + 3) ls (o.toList ++ rest))) : W p l e R s m args below meth c H locs cells slots Q (F0 m pc ls st0) :=
  callx (mc := 0) (ms := 0) (wr := []) Z (List.range ws.length) [] (rng_map ws) rfl rfl (fun _ h => by cases h)
    (va_runV (As := As) (rest := rest) X (hM H.size) (cwV As.length X.2.2.2.2 (good_V hTs k) rfl h0.1 h0.2 ⟨hd.1, hd.2⟩ hR) ⟨pre_blind, va_recv Z.2.2.2.1 Z.1 hci he, pre_all Z⟩ rfl rfl hsize hst (lv_room hrm) hdg hcs) kk
/-- a virtual call over a part of the world -/
theorem call_VP (X : CallFix p m c cc nL s args Ts own) (hTs : ∀ w ∈ TB, w ∈ Ts) (Z : ZZ D cI ws A s H locs) (isC isR : List Nat) (hC : isC.map (fun i => ws[i]?) = wc.map some) (hR0 : isR.map (fun i => ws[i]?) = wr.map some) (hnC : va_nd isC = true) (hn : va_nd isR = true) (hdis : ∀ i ∈ isR, i ∉ isC) (k : WV own index qq.1 y (.code y bytes maxL ret)) (hM : MI l D cI y (.code y bytes maxL ret) rm (.ref b :: As) wc w1 o)
    (he : wc[0]? = some (b, .inr (ci, fs))) (hci : vwCl[ci]? = some qq) (hd : y.cls = qq.1 ∧ HD y As.length) (hR : rm.frames + 1 ≤ R.frames ∧ 8 + (maxL + 11) + rm.locals ≤ R.locals) (h0 : rm.cells = 0 ∧ rm.slots = 0)
    (hsize : ls.size = nL) (hst : st0 = As.reverse ++ .ref b :: rest) (hrm : (rest.map fun v => v.category).sum ≤ 8) (hcs : cells ≤ R.cells ∧ slots ≤ R.slots) (hdg : decode cc pc = .ok (.invokevirtual index, 3))
    (kk : ∀ (H1 : Heap) (locs1 : List Loc), ZZ D cI (wr ++ w1) A s H1 locs1 → W p l e R s m args below meth c H1 locs1 cells slots Q (F0 m (pc + 3) ls (o.toList ++ rest))) : W p l e R s m args below meth c H locs cells slots Q (F0 m pc ls st0) :=
  callx (mc := 0) (ms := 0) Z isC isR hC hR0 hn hdis
    (va_runV (As := As) (rest := rest) X (hM H.size) (cwV As.length X.2.2.2.2 (good_V hTs k) rfl h0.1 h0.2 ⟨hd.1, hd.2⟩ hR) ⟨pre_blind, va_recv Z.2.2.2.1 (Z.1.sub isC (fm_of_map hC)) hci he, pre_of Z isC hC hnC⟩ rfl rfl hsize hst (lv_room hrm) hdg hcs) kk
/-- a call of a nest mate's private method, over a part of the world -/
theorem call_N (X : CallFix p m c cc nL s args Ts own) (hTs : ∀ w ∈ TB, w ∈ Ts) (Z : ZZ D cI ws A s H locs) (isC isR : List Nat) (hC : isC.map (fun i => ws[i]?) = wc.map some) (hR0 : isR.map (fun i => ws[i]?) = wr.map some) (hnC : va_nd isC = true) (hn : va_nd isR = true) (hdis : ∀ i ∈ isR, i ∉ isC) (k : WN own index qq.1 y (.code y bytes maxL ret) host) (hM : MI l D cI y (.code y bytes maxL ret) rm (.ref b :: As) wc w1 o)
    (he : wc[0]? = some (b, .inr (ci, fs))) (hci : vwCl[ci]? = some qq) (hd : HD y As.length) (hR : rm.frames + 1 ≤ R.frames ∧ 8 + (maxL + 11) + rm.locals ≤ R.locals) (h0 : rm.cells = 0 ∧ rm.slots = 0)
    (hsize : ls.size = nL) (hst : st0 = As.reverse ++ .ref b :: rest) (hrm : (rest.map fun v => v.category).sum ≤ 8) (hcs : cells ≤ R.cells ∧ slots ≤ R.slots) (hdg : decode cc pc = .ok (.invokevirtual index, 3))
    (kk : ∀ (H1 : Heap) (locs1 : List Loc), ZZ D cI (wr ++ w1) A s H1 locs1 → W p l e R s m args below meth c H1 locs1 cells slots Q (F0 m (pc + 3) ls (o.toList ++ rest))) : W p l e R s m args below meth c H locs cells slots Q (F0 m pc ls st0) :=
  have ht := X.2.2.2.2
  callx (mc := 0) (ms := 0) Z isC isR hC hR0 hn hdis
    (va_runVN (C := qq.1) (host := host) (As := As) (rest := rest) X (hM H.size) ⟨va_cnB As.length ht (good_k hTs k.2.2.2.2) rfl h0.1 h0.2 (Z.2.2.2.2.1 _ k.1) (ht _ (hTs _ k.2.2.2.1)) hd hR, ht _ (hTs _ k.2.1), ht _ (hTs _ k.2.2.1)⟩ ⟨pre_blind, va_recv Z.2.2.2.1 (Z.1.sub isC (fm_of_map hC)) hci he, pre_of Z isC hC hnC⟩ rfl rfl hsize hst (lv_room hrm) hdg hcs) kk
/-- a static call -/
theorem call_S (X : CallFix p m c cc nL s args Ts own) (hTs : ∀ w ∈ TB, w ∈ Ts) (Z : ZZ D cI ws A s H locs) (k : WS own index y (.code y bytes maxL ret)) (hM : MI l D cI y (.code y bytes maxL ret) rm As ws ws o)
    (hd : y.cls = own ∧ HD y As.length) (hR : rm.frames + 1 ≤ R.frames ∧ 8 + (maxL + 11) + rm.locals ≤ R.locals) (h0 : rm.cells = 0 ∧ rm.slots = 0)
    (hsize : ls.size = nL) (hst : st0 = As.reverse ++ rest) (hrm : (rest.map fun v => v.category).sum ≤ 8) (hcs : cells ≤ R.cells ∧ slots ≤ R.slots) (hdg : decode cc pc = .ok (.invokestatic index, 3))
    (kk : ∀ (H1 : Heap) (locs1 : List Loc), ZZ D cI ws A s H1 locs1 → W p l e R s m args below meth c H1 locs1 cells slots Q (F0 m (pc + 3) ls (o.toList ++ rest))) : W p l e R s m args below meth c H locs cells slots Q (F0 m pc ls st0) :=
  callx (mc := 0) (ms := 0) (wr := []) Z (List.range ws.length) [] (rng_map ws) rfl rfl (fun _ h => by cases h)
    (va_runS (As := As) (rest := rest) X (hM H.size) (cwS As.length X.2.2.2.2 (good_S hTs k) rfl h0.1 h0.2 ⟨hd.1, hd.2⟩ hR) ⟨pre_blind, pre_all Z⟩ rfl rfl hsize hst (lv_room hrm) hdg hcs) kk
/-- a method's beginning -/
theorem MI.of (hy : plainName y.cls = true) (hyc : y.cls = own) (hlen : (lg_sl As).length ≤ nL)
    (body : ∀ (p : Program) (e : Env) (s : State) (m : MethodId) (below : List Frame) (meth : Method) (c : Code) (A : Nat → Prop) (ls : Array Slot), CallFix p m c cc nL s As.toArray (Cond.code y cc nL ret :: TB) own → meth.locks = false → meth.sig.returnType = ret → ZZ D cI ws A s s.heap [] → lv_has ls nL (lv_args 0 As) →
      W p l e rm s m As.toArray below meth c s.heap [] 0 0 (MQ below (QQ D cI ws' A o) As.toArray s 0 0 A) (F0 m 0 ls [])) : MI l D cI y (.code y cc nL ret) rm As ws ws' o := by
  intro sz
  refine Met.ofW (cc := cc) (maxL := nL) (ret := ret) hy rfl ?_
  intro p e s m args below meth c s₁ B hml hv
  obtain ⟨rfl, hsz, hP, hK, hD0, hN⟩ := hv
  have hts := atoms_spec (ws := Cond.code y cc nL ret :: TB) B.pre
  have hown : s.vm.findClass own = some m.cls := by rw [← hyc]; exact findClass_of_methodNamed B.named
  subst hsz
  have hD := hD0.self (sz := s.heap.size)
  have hA : ∀ q, s.heap.size ≤ q → va_A ws s.heap.size q := fun q h => Or.inr h
  rw [lg_entry_eq]
  exact body p e s m below meth c _ _ ⟨B.exec, B.bytes, hml, hown, hts⟩ B.notSynchronized B.returns ⟨hP, hD, va_S.rf, hK, hN, hA⟩ (lv_entry As hlen)
theorem ret_i {v r : Int32} (X : CallFix p m c cc nL s args Ts own) (hlk : meth.locks = false) (hr : meth.sig.returnType = some .int) (Z : ZZ D cI ws A s H locs) (hw : ws = ws') (hv : v = r) (hdg : decode cc pc = .ok (.ireturn, 1)) :
    W p l e R s m args below meth c H locs 0 0 (MQ below (QQ D cI ws' A (some (.int r))) args s 0 0 A) (F0 m pc ls [.int v]) := by
  subst hw; subst hv
  exact W.iret X.1 X.2.1 hr (fun t ht hW => ⟨rfl, ⟨by rw [ht]; exact Z.1, va_K.moved hW.alike Z.2.2.2.1, Z.2.1⟩, Z.2.2.1.F ht⟩) Z.2.2.1.2.2 hdg hlk
theorem ret_z {v r : Int32} (X : CallFix p m c cc nL s args Ts own) (hlk : meth.locks = false) (hr : meth.sig.returnType = some .boolean) (Z : ZZ D cI ws A s H locs) (hw : ws = ws') (hv : v = r) (hn : narrow .boolean (.int v) = .int v) (hdg : decode cc pc = .ok (.ireturn, 1)) :
    W p l e R s m args below meth c H locs 0 0 (MQ below (QQ D cI ws' A (some (.int r))) args s 0 0 A) (F0 m pc ls [.int v]) := by
  subst hw; subst hv
  exact W.zret X.1 X.2.1 hr hn (fun t ht hW => ⟨rfl, ⟨by rw [ht]; exact Z.1, va_K.moved hW.alike Z.2.2.2.1, Z.2.1⟩, Z.2.2.1.F ht⟩) Z.2.2.1.2.2 hdg hlk
theorem ret_v (X : CallFix p m c cc nL s args Ts own) (hlk : meth.locks = false) (hr : meth.sig.returnType = none) (Z : ZZ D cI ws A s H locs) (hw : ws = ws') (hdg : decode cc pc = .ok (.return_, 1)) :
    W p l e R s m args below meth c H locs 0 0 (MQ below (QQ D cI ws' A none) args s 0 0 A) (F0 m pc ls []) := by
  subst hw
  exact W.vret X.1 X.2.1 hr (fun t ht hW => ⟨rfl, ⟨by rw [ht]; exact Z.1, va_K.moved hW.alike Z.2.2.2.1, Z.2.1⟩, Z.2.2.1.F ht⟩) Z.2.2.1.2.2 hdg hlk
/-- fields and arrays of a world's cell, by its place -/
theorem z_get {ref : String} {T : u_T} {N : Nat} {a : Nat} (X : CallFix p m c cc nL s args Ts own) (hTs : ∀ w ∈ TB, w ∈ Ts) (Z : ZZ D cI ws A s H locs) (hin : ∀ w ∈ u_ws C T N, w ∈ TB) (q0 : Nat) (he : ws[q0]? = some (a, .inr (ci, fs))) (hc : vwCl[ci]? = some (C, T, N)) (k : Nat) (hk : k < N) (hl : Cond.fieldLink own index ref (T k).2.1 (T k).2.2.1 ∈ TB) (hrf : (T k).1 = ref) {v : Value} (hv : fs[k]? = some v) (hdg : decode cc pc = .ok (.getfield index, 3))
    (kk : W p l e R s m args below meth c H locs cells slots Q (F0 m (pc + 3) ls (v :: rest))) : W p l e R s m args below meth c H locs cells slots Q (F0 m pc ls (.ref a :: rest)) := by
  subst hrf
  exact va_get X.1 X.2.1 X.2.2.2.2 (fun w h => hTs w (hin w h)) X.2.2.2.1 Z.2.2.2.1 Z.1 q0 he hc k hk (X.2.2.2.2 _ (hTs _ hl)) (fun _ h => h) hv hdg kk
theorem z_getN {ref : String} {T : u_T} {N : Nat} {a : Nat} (X : CallFix p m c cc nL s args Ts own) (hTs : ∀ w ∈ TB, w ∈ Ts) (Z : ZZ D cI ws A s H locs) (hin : ∀ w ∈ u_ws C T N, w ∈ TB) (q0 : Nat) (he : ws[q0]? = some (a, .inr (ci, fs))) (hc : vwCl[ci]? = some (C, T, N)) (k : Nat) (hk : k < N) (hl : Cond.fieldLinkNest own index ref (T k).2.1 (T k).2.2.1 host ∈ NL) (hrf : (T k).1 = ref) {v : Value} (hv : fs[k]? = some v) (hdg : decode cc pc = .ok (.getfield index, 3))
    (kk : W p l e R s m args below meth c H locs cells slots Q (F0 m (pc + 3) ls (v :: rest))) : W p l e R s m args below meth c H locs cells slots Q (F0 m pc ls (.ref a :: rest)) := by
  subst hrf
  exact va_getN X.1 X.2.1 X.2.2.2.2 (fun w h => hTs w (hin w h)) X.2.2.2.1 Z.2.2.2.1 Z.1 q0 he hc k hk (va_Nw.use rfl (Z.2.2.2.2.1 _ hl)) (fun _ h => h) hv hdg kk
theorem z_put {ref : String} {T : u_T} {N : Nat} {a : Nat} (X : CallFix p m c cc nL s args Ts own) (hTs : ∀ w ∈ TB, w ∈ Ts) (Z : ZZ D cI ws A s H locs) (hin : ∀ w ∈ u_ws C T N, w ∈ TB) (ty0 : Nat → FieldType) (hty : ∀ k, k < N → parseFieldDescriptor (T k).2.2.1 = some (ty0 k)) (hnm : ∀ a, a < N → ∀ b, b < N → a ≠ b → (T a).2.1 ≠ (T b).2.1) (q0 : Nat) (he : ws[q0]? = some (a, .inr (ci, fs))) (hc : vwCl[ci]? = some (C, T, N)) (k : Nat) (hk : k < N) (hl : Cond.fieldLink own index ref (T k).2.1 (T k).2.2.1 ∈ TB) (hrf : (T k).1 = ref) (hfin : (T k).2.2.2 = false) {ty : FieldType} {v : Value} (hd : parseFieldDescriptor (T k).2.2.1 = some ty) (hn : narrow ty v = v) (hfit : fits ty v = true) (hlen : k < fs.length) (hw : ws.set q0 (a, .inr (ci, fs.set k v)) = ws') (hdg : decode cc pc = .ok (.putfield index, 3))
    (kk : ∀ (H1 : Heap) (locs1 : List Loc), ZZ D cI ws' A s H1 locs1 → W p l e R s m args below meth c H1 locs1 cells slots Q (F0 m (pc + 3) ls rest)) : W p l e R s m args below meth c H locs cells slots Q (F0 m pc ls (v :: .ref a :: rest)) := by
  subst hrf; subst hw
  exact va_put X.1 X.2.1 X.2.2.2.2 (fun w h => hTs w (hin w h)) ty0 hty hnm X.2.2.2.1 Z.2.2.2.1 Z.1 Z.2.1 Z.2.2.1 q0 he hc k hk (X.2.2.2.2 _ (hTs _ hl)) (fun _ h => h) hfin hd hn hfit hlen hdg (fun H1 locs1 h1 h2 h3 => kk H1 locs1 ⟨h1, h2, h3, Z.2.2.2⟩)
theorem z_putN {ref : String} {T : u_T} {N : Nat} {a : Nat} (X : CallFix p m c cc nL s args Ts own) (hTs : ∀ w ∈ TB, w ∈ Ts) (Z : ZZ D cI ws A s H locs) (hin : ∀ w ∈ u_ws C T N, w ∈ TB) (ty0 : Nat → FieldType) (hty : ∀ k, k < N → parseFieldDescriptor (T k).2.2.1 = some (ty0 k)) (hnm : ∀ a, a < N → ∀ b, b < N → a ≠ b → (T a).2.1 ≠ (T b).2.1) (q0 : Nat) (he : ws[q0]? = some (a, .inr (ci, fs))) (hc : vwCl[ci]? = some (C, T, N)) (k : Nat) (hk : k < N) (hl : Cond.fieldLinkNest own index ref (T k).2.1 (T k).2.2.1 host ∈ NL) (hrf : (T k).1 = ref) (hfin : (T k).2.2.2 = false) {ty : FieldType} {v : Value} (hd : parseFieldDescriptor (T k).2.2.1 = some ty) (hn : narrow ty v = v) (hfit : fits ty v = true) (hlen : k < fs.length) (hw : ws.set q0 (a, .inr (ci, fs.set k v)) = ws') (hdg : decode cc pc = .ok (.putfield index, 3))
    (kk : ∀ (H1 : Heap) (locs1 : List Loc), ZZ D cI ws' A s H1 locs1 → W p l e R s m args below meth c H1 locs1 cells slots Q (F0 m (pc + 3) ls rest)) : W p l e R s m args below meth c H locs cells slots Q (F0 m pc ls (v :: .ref a :: rest)) := by
  subst hrf; subst hw
  exact va_putN X.1 X.2.1 X.2.2.2.2 (fun w h => hTs w (hin w h)) ty0 hty hnm X.2.2.2.1 Z.2.2.2.1 Z.1 Z.2.1 Z.2.2.1 q0 he hc k hk (va_Nw.use rfl (Z.2.2.2.2.1 _ hl)) (fun _ h => h) hfin hd hn hfit hlen hdg (fun H1 locs1 h1 h2 h3 => kk H1 locs1 ⟨h1, h2, h3, Z.2.2.2⟩)
theorem z_ld {a n : Nat} {f : Nat → Int32} (X : CallFix p m c cc nL s args Ts own) (Z : ZZ D cI ws A s H locs) (q0 : Nat) (he : ws[q0]? = some (a, .inl (cI, n, .inl f))) {i : Int32} (hi : vp_in i n) {j : Nat} (hj : i.toNatClampNeg = j) (hdg : decode cc pc = .ok (.iaload, 1))
    (kk : W p l e R s m args below meth c H locs cells slots Q (F0 m (pc + 1) ls (.int (f j) :: rest))) : W p l e R s m args below meth c H locs cells slots Q (F0 m pc ls (.int i :: .ref a :: rest)) := by
  subst hj
  exact va_iald X.1 X.2.1 Z.2.2.2.1 Z.1 q0 0 he rfl hi hdg kk
theorem z_st {a n : Nat} {f : Nat → Int32} (X : CallFix p m c cc nL s args Ts own) (Z : ZZ D cI ws A s H locs) (q0 : Nat) (he : ws[q0]? = some (a, .inl (cI, n, .inl f))) {i x : Int32} (hi : vp_in i n) {j : Nat} (hj : i.toNatClampNeg = j) (hw : ws.set q0 (a, .inl (cI, n, .inl (upd f j x))) = ws') (hdg : decode cc pc = .ok (.iastore, 1))
    (kk : ∀ (H1 : Heap) (locs1 : List Loc), ZZ D cI ws' A s H1 locs1 → W p l e R s m args below meth c H1 locs1 cells slots Q (F0 m (pc + 1) ls rest)) : W p l e R s m args below meth c H locs cells slots Q (F0 m pc ls (.int x :: .int i :: .ref a :: rest)) := by
  subst hj; subst hw
  exact va_iast X.1 X.2.1 Z.2.2.2.1 Z.1 Z.2.1 Z.2.2.1 q0 0 he rfl hi hdg (fun H1 locs1 h1 h2 h3 => kk H1 locs1 ⟨h1, h2, h3, Z.2.2.2⟩)
/-- a method's beginning, with its answers as a hypothesis -/
theorem MI.ofI {r : Int32} (hy : plainName y.cls = true) (hyc : y.cls = own) (hlen : (lg_sl As).length ≤ nL)
    (body : ∀ (p : Program) (e : Env) (s : State) (m : MethodId) (args : Array Value) (below : List Frame) (meth : Method) (c : Code) (A : Nat → Prop) (ls : Array Slot) (Q : State → Prop), CallFix p m c cc nL s args (Cond.code y cc nL (some .int) :: TB) own → ZZ D cI ws A s s.heap [] → lv_has ls nL (lv_args 0 As) →
      (∀ (v : Int32) (w : va_W) (H : Heap) (locs : List Loc) (ls : Array Slot) (pc : Nat), ZZ D cI w A s H locs → w = ws' → v = r → decode cc pc = .ok (.ireturn, 1) → W p l e rm s m args below meth c H locs 0 0 Q (F0 m pc ls [.int v])) →
      W p l e rm s m args below meth c s.heap [] 0 0 Q (F0 m 0 ls [])) : MI l D cI y (.code y cc nL (some .int)) rm As ws ws' (some (.int r)) :=
  MI.of hy hyc hlen (fun p e s m below meth c A ls X hlk hr Z hl => body p e s m _ below meth c A ls _ X Z hl (fun _ _ _ _ _ _ Z hw hv hd => ret_i X hlk hr Z hw hv hd))
theorem MI.ofZ {r : Int32} (hy : plainName y.cls = true) (hyc : y.cls = own) (hlen : (lg_sl As).length ≤ nL)
    (body : ∀ (p : Program) (e : Env) (s : State) (m : MethodId) (args : Array Value) (below : List Frame) (meth : Method) (c : Code) (A : Nat → Prop) (ls : Array Slot) (Q : State → Prop), CallFix p m c cc nL s args (Cond.code y cc nL (some .boolean) :: TB) own → ZZ D cI ws A s s.heap [] → lv_has ls nL (lv_args 0 As) →
      (∀ (v : Int32) (w : va_W) (H : Heap) (locs : List Loc) (ls : Array Slot) (pc : Nat), ZZ D cI w A s H locs → w = ws' → v = r → narrow .boolean (.int v) = .int v → decode cc pc = .ok (.ireturn, 1) → W p l e rm s m args below meth c H locs 0 0 Q (F0 m pc ls [.int v])) →
      W p l e rm s m args below meth c s.heap [] 0 0 Q (F0 m 0 ls [])) : MI l D cI y (.code y cc nL (some .boolean)) rm As ws ws' (some (.int r)) :=
  MI.of hy hyc hlen (fun p e s m below meth c A ls X hlk hr Z hl => body p e s m _ below meth c A ls _ X Z hl (fun _ _ _ _ _ _ Z hw hv hn hd => ret_z X hlk hr Z hw hv hn hd))
theorem MI.ofV (hy : plainName y.cls = true) (hyc : y.cls = own) (hlen : (lg_sl As).length ≤ nL)
    (body : ∀ (p : Program) (e : Env) (s : State) (m : MethodId) (args : Array Value) (below : List Frame) (meth : Method) (c : Code) (A : Nat → Prop) (ls : Array Slot) (Q : State → Prop), CallFix p m c cc nL s args (Cond.code y cc nL none :: TB) own → ZZ D cI ws A s s.heap [] → lv_has ls nL (lv_args 0 As) →
      (∀ (w : va_W) (H : Heap) (locs : List Loc) (ls : Array Slot) (pc : Nat), ZZ D cI w A s H locs → w = ws' → decode cc pc = .ok (.return_, 1) → W p l e rm s m args below meth c H locs 0 0 Q (F0 m pc ls [])) →
      W p l e rm s m args below meth c s.heap [] 0 0 Q (F0 m 0 ls [])) : MI l D cI y (.code y cc nL none) rm As ws ws' none :=
  MI.of hy hyc hlen (fun p e s m below meth c A ls X hlk hr Z hl => body p e s m _ below meth c A ls _ X Z hl (fun _ _ _ _ _ Z hw hd => ret_v X hlk hr Z hw hd))
theorem call_Vi {r : Int32} (X : CallFix p m c cc nL s args Ts own) (hTs : ∀ w ∈ TB, w ∈ Ts) (Z : ZZ D cI ws A s H locs) (k : WV own index qq.1 y (.code y bytes maxL ret)) (hM : MI l D cI y (.code y bytes maxL ret) rm (.ref b :: As) ws ws' (some (.int r)))
    (he : ws[0]? = some (b, .inr (ci, fs))) (hci : vwCl[ci]? = some qq) (hd : y.cls = qq.1 ∧ HD y As.length) (hR : rm.frames + 1 ≤ R.frames ∧ 8 + (maxL + 11) + rm.locals ≤ R.locals) (h0 : rm.cells = 0 ∧ rm.slots = 0)
    (hsize : ls.size = nL) (hst : st0 = As.reverse ++ .ref b :: rest) (hrm : (rest.map fun v => v.category).sum ≤ 8) (hcs : cells ≤ R.cells ∧ slots ≤ R.slots) (hdg : decode cc pc = .ok (.invokevirtual index, 3))
    (kk : ∀ (H1 : Heap) (locs1 : List Loc), ZZ D cI ws' A s H1 locs1 → W p l e R s m args below meth c H1 locs1 cells slots Q (F0 m (pc + 3) ls (.int r :: rest))) : W p l e R s m args below meth c H locs cells slots Q (F0 m pc ls st0) :=
  call_V (rest := rest) X hTs Z k hM he hci hd hR h0 hsize hst hrm hcs hdg kk
theorem call_Vv (X : CallFix p m c cc nL s args Ts own) (hTs : ∀ w ∈ TB, w ∈ Ts) (Z : ZZ D cI ws A s H locs) (k : WV own index qq.1 y (.code y bytes maxL ret)) (hM : MI l D cI y (.code y bytes maxL ret) rm (.ref b :: As) ws ws' none)
    (he : ws[0]? = some (b, .inr (ci, fs))) (hci : vwCl[ci]? = some qq) (hd : y.cls = qq.1 ∧ HD y As.length) (hR : rm.frames + 1 ≤ R.frames ∧ 8 + (maxL + 11) + rm.locals ≤ R.locals) (h0 : rm.cells = 0 ∧ rm.slots = 0)
    (hsize : ls.size = nL) (hst : st0 = As.reverse ++ .ref b :: rest) (hrm : (rest.map fun v => v.category).sum ≤ 8) (hcs : cells ≤ R.cells ∧ slots ≤ R.slots) (hdg : decode cc pc = .ok (.invokevirtual index, 3))
    (kk : ∀ (H1 : Heap) (locs1 : List Loc), ZZ D cI ws' A s H1 locs1 → W p l e R s m args below meth c H1 locs1 cells slots Q (F0 m (pc + 3) ls rest)) : W p l e R s m args below meth c H locs cells slots Q (F0 m pc ls st0) :=
  call_V (rest := rest) X hTs Z k hM he hci hd hR h0 hsize hst hrm hcs hdg kk
theorem call_VPi {r : Int32} (X : CallFix p m c cc nL s args Ts own) (hTs : ∀ w ∈ TB, w ∈ Ts) (Z : ZZ D cI ws A s H locs) (isC isR : List Nat) (hC : isC.map (fun i => ws[i]?) = wc.map some) (hR0 : isR.map (fun i => ws[i]?) = wr.map some) (hnC : va_nd isC = true) (hn : va_nd isR = true) (hdis : ∀ i ∈ isR, i ∉ isC) (k : WV own index qq.1 y (.code y bytes maxL ret)) (hM : MI l D cI y (.code y bytes maxL ret) rm (.ref b :: As) wc w1 (some (.int r)))
    (he : wc[0]? = some (b, .inr (ci, fs))) (hci : vwCl[ci]? = some qq) (hd : y.cls = qq.1 ∧ HD y As.length) (hR : rm.frames + 1 ≤ R.frames ∧ 8 + (maxL + 11) + rm.locals ≤ R.locals) (h0 : rm.cells = 0 ∧ rm.slots = 0)
    (hsize : ls.size = nL) (hst : st0 = As.reverse ++ .ref b :: rest) (hrm : (rest.map fun v => v.category).sum ≤ 8) (hcs : cells ≤ R.cells ∧ slots ≤ R.slots) (hdg : decode cc pc = .ok (.invokevirtual index, 3))
    (kk : ∀ (H1 : Heap) (locs1 : List Loc), ZZ D cI (wr ++ w1) A s H1 locs1 → W p l e R s m args below meth c H1 locs1 cells slots Q (F0 m (pc + 3) ls (.int r :: rest))) : W p l e R s m args below meth c H locs cells slots Q (F0 m pc ls st0) :=
  call_VP (rest := rest) X hTs Z isC isR hC hR0 hnC hn hdis k hM he hci hd hR h0 hsize hst hrm hcs hdg kk
theorem call_VPv (X : CallFix p m c cc nL s args Ts own) (hTs : ∀ w ∈ TB, w ∈ Ts) (Z : ZZ D cI ws A s H locs) (isC isR : List Nat) (hC : isC.map (fun i => ws[i]?) = wc.map some) (hR0 : isR.map (fun i => ws[i]?) = wr.map some) (hnC : va_nd isC = true) (hn : va_nd isR = true) (hdis : ∀ i ∈ isR, i ∉ isC) (k : WV own index qq.1 y (.code y bytes maxL ret)) (hM : MI l D cI y (.code y bytes maxL ret) rm (.ref b :: As) wc w1 none)
    (he : wc[0]? = some (b, .inr (ci, fs))) (hci : vwCl[ci]? = some qq) (hd : y.cls = qq.1 ∧ HD y As.length) (hR : rm.frames + 1 ≤ R.frames ∧ 8 + (maxL + 11) + rm.locals ≤ R.locals) (h0 : rm.cells = 0 ∧ rm.slots = 0)
    (hsize : ls.size = nL) (hst : st0 = As.reverse ++ .ref b :: rest) (hrm : (rest.map fun v => v.category).sum ≤ 8) (hcs : cells ≤ R.cells ∧ slots ≤ R.slots) (hdg : decode cc pc = .ok (.invokevirtual index, 3))
    (kk : ∀ (H1 : Heap) (locs1 : List Loc), ZZ D cI (wr ++ w1) A s H1 locs1 → W p l e R s m args below meth c H1 locs1 cells slots Q (F0 m (pc + 3) ls rest)) : W p l e R s m args below meth c H locs cells slots Q (F0 m pc ls st0) :=
  call_VP (rest := rest) X hTs Z isC isR hC hR0 hnC hn hdis k hM he hci hd hR h0 hsize hst hrm hcs hdg kk
theorem call_Ni {r : Int32} (X : CallFix p m c cc nL s args Ts own) (hTs : ∀ w ∈ TB, w ∈ Ts) (Z : ZZ D cI ws A s H locs) (isC isR : List Nat) (hC : isC.map (fun i => ws[i]?) = wc.map some) (hR0 : isR.map (fun i => ws[i]?) = wr.map some) (hnC : va_nd isC = true) (hn : va_nd isR = true) (hdis : ∀ i ∈ isR, i ∉ isC) (k : WN own index qq.1 y (.code y bytes maxL ret) host) (hM : MI l D cI y (.code y bytes maxL ret) rm (.ref b :: As) wc w1 (some (.int r)))
    (he : wc[0]? = some (b, .inr (ci, fs))) (hci : vwCl[ci]? = some qq) (hd : HD y As.length) (hR : rm.frames + 1 ≤ R.frames ∧ 8 + (maxL + 11) + rm.locals ≤ R.locals) (h0 : rm.cells = 0 ∧ rm.slots = 0)
    (hsize : ls.size = nL) (hst : st0 = As.reverse ++ .ref b :: rest) (hrm : (rest.map fun v => v.category).sum ≤ 8) (hcs : cells ≤ R.cells ∧ slots ≤ R.slots) (hdg : decode cc pc = .ok (.invokevirtual index, 3))
    (kk : ∀ (H1 : Heap) (locs1 : List Loc), ZZ D cI (wr ++ w1) A s H1 locs1 → W p l e R s m args below meth c H1 locs1 cells slots Q (F0 m (pc + 3) ls (.int r :: rest))) : W p l e R s m args below meth c H locs cells slots Q (F0 m pc ls st0) :=
  call_N (rest := rest) X hTs Z isC isR hC hR0 hnC hn hdis k hM he hci hd hR h0 hsize hst hrm hcs hdg kk
theorem call_Nv (X : CallFix p m c cc nL s args Ts own) (hTs : ∀ w ∈ TB, w ∈ Ts) (Z : ZZ D cI ws A s H locs) (isC isR : List Nat) (hC : isC.map (fun i => ws[i]?) = wc.map some) (hR0 : isR.map (fun i => ws[i]?) = wr.map some) (hnC : va_nd isC = true) (hn : va_nd isR = true) (hdis : ∀ i ∈ isR, i ∉ isC) (k : WN own index qq.1 y (.code y bytes maxL ret) host) (hM : MI l D cI y (.code y bytes maxL ret) rm (.ref b :: As) wc w1 none)
    (he : wc[0]? = some (b, .inr (ci, fs))) (hci : vwCl[ci]? = some qq) (hd : HD y As.length) (hR : rm.frames + 1 ≤ R.frames ∧ 8 + (maxL + 11) + rm.locals ≤ R.locals) (h0 : rm.cells = 0 ∧ rm.slots = 0)
    (hsize : ls.size = nL) (hst : st0 = As.reverse ++ .ref b :: rest) (hrm : (rest.map fun v => v.category).sum ≤ 8) (hcs : cells ≤ R.cells ∧ slots ≤ R.slots) (hdg : decode cc pc = .ok (.invokevirtual index, 3))
    (kk : ∀ (H1 : Heap) (locs1 : List Loc), ZZ D cI (wr ++ w1) A s H1 locs1 → W p l e R s m args below meth c H1 locs1 cells slots Q (F0 m (pc + 3) ls rest)) : W p l e R s m args below meth c H locs cells slots Q (F0 m pc ls st0) :=
  call_N (rest := rest) X hTs Z isC isR hC hR0 hnC hn hdis k hM he hci hd hR h0 hsize hst hrm hcs hdg kk
theorem call_Si {r : Int32} (X : CallFix p m c cc nL s args Ts own) (hTs : ∀ w ∈ TB, w ∈ Ts) (Z : ZZ D cI ws A s H locs) (k : WS own index y (.code y bytes maxL ret)) (hM : MI l D cI y (.code y bytes maxL ret) rm As ws ws (some (.int r)))
    (hd : y.cls = own ∧ HD y As.length) (hR : rm.frames + 1 ≤ R.frames ∧ 8 + (maxL + 11) + rm.locals ≤ R.locals) (h0 : rm.cells = 0 ∧ rm.slots = 0)
    (hsize : ls.size = nL) (hst : st0 = As.reverse ++ rest) (hrm : (rest.map fun v => v.category).sum ≤ 8) (hcs : cells ≤ R.cells ∧ slots ≤ R.slots) (hdg : decode cc pc = .ok (.invokestatic index, 3))
    (kk : ∀ (H1 : Heap) (locs1 : List Loc), ZZ D cI ws A s H1 locs1 → W p l e R s m args below meth c H1 locs1 cells slots Q (F0 m (pc + 3) ls (.int r :: rest))) : W p l e R s m args below meth c H locs cells slots Q (F0 m pc ls st0) :=
  call_S (rest := rest) X hTs Z k hM hd hR h0 hsize hst hrm hcs hdg kk
theorem call_Sv (X : CallFix p m c cc nL s args Ts own) (hTs : ∀ w ∈ TB, w ∈ Ts) (Z : ZZ D cI ws A s H locs) (k : WS own index y (.code y bytes maxL ret)) (hM : MI l D cI y (.code y bytes maxL ret) rm As ws ws none)
    (hd : y.cls = own ∧ HD y As.length) (hR : rm.frames + 1 ≤ R.frames ∧ 8 + (maxL + 11) + rm.locals ≤ R.locals) (h0 : rm.cells = 0 ∧ rm.slots = 0)
    (hsize : ls.size = nL) (hst : st0 = As.reverse ++ rest) (hrm : (rest.map fun v => v.category).sum ≤ 8) (hcs : cells ≤ R.cells ∧ slots ≤ R.slots) (hdg : decode cc pc = .ok (.invokestatic index, 3))
    (kk : ∀ (H1 : Heap) (locs1 : List Loc), ZZ D cI ws A s H1 locs1 → W p l e R s m args below meth c H1 locs1 cells slots Q (F0 m (pc + 3) ls rest)) : W p l e R s m args below meth c H locs cells slots Q (F0 m pc ls st0) :=
  call_S (rest := rest) X hTs Z k hM hd hR h0 hsize hst hrm hcs hdg kk
end BASE
