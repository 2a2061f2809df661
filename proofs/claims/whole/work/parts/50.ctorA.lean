/-! constructors: contracts with new cells -/
def QN (D : va_G) (cI : ClassId) (P : va_W → Prop) (A : Nat → Prop) : Array Value → State → Outcome → State → Prop := fun _ st oc t => oc = .returned none ∧ (∃ w, P w ∧ PB D cI w A t) ∧ va_F A st t
def MN (l : Launch) (D : va_G) (cI : ClassId) (y : MethodName) (k : Cond) (rm : Room) (As : List Value) (ws : va_W) (P : va_W → Prop) (mc ms : Nat) : Prop :=
  ∀ sz, Met l y (k :: TB) rm (va_Pc As (PRE D cI ws sz)) (QN D cI P (va_A ws sz)) mc ms (va_A ws sz)
section CTORA
variable {p : Program} {l : Launch} {e : Env} {R : Room} {s : State} {m : MethodId} {args : Array Value} {below : List Frame} {meth : Method} {c : Code} {H : Heap} {locs : List Loc} {cells slots : Nat} {Q : State → Prop}
variable {cc : ByteArray} {nL pc : Nat} {ls : Array Slot} {rest st0 : List Value} {D : va_G} {cI : ClassId} {A : Nat → Prop} {ws wc wr ws' : va_W} {Ts : List Cond} {own C : String} {mc ms : Nat} {P : va_W → Prop}
variable {y : MethodName} {bytes : ByteArray} {maxL index : Nat} {rm : Room} {As : List Value} {b ci : Nat} {fs : List Value} {host : String}
theorem callxN {a : Array Value} (Z : ZZ D cI ws A s H locs) (isC isR : List Nat) (hC : isC.map (fun i => ws[i]?) = wc.map some) (hR : isR.map (fun i => ws[i]?) = wr.map some) (hn : va_nd isR = true) (hdis : ∀ i ∈ isR, i ∉ isC)
    (hr : va_Run p l e R s m args below meth c H locs cells slots mc ms (F0 m pc ls st0) rest (QN D cI P (va_A wc H.size) a) (va_A wc H.size))
    (kk : ∀ (w1 : va_W) (H1 : Heap) (locs1 : List Loc), P w1 → ZZ D cI (wr ++ w1) A s H1 locs1 → W p l e R s m args below meth c H1 locs1 (cells + mc) (slots + ms) Q (F0 m (pc + 3) ls rest)) : W p l e R s m args below meth c H locs cells slots Q (F0 m pc ls st0) := by
  obtain ⟨hP, hD, hS, hK, hN, hA⟩ := Z
  have hF := va_free (wc := wc) hD hS hA isC hC
  intro T hT X
  obtain ⟨v, st₀, t, T', L, h0, X', hL, e1, e2, ⟨hv, ⟨w1, hw1, hP1, hK1, hD1⟩, hz, hk⟩, st⟩ := hr T hT X
  cases hv
  rw [h0] at hz hk
  rw [← e1] at hP1
  obtain ⟨hP2, hD2⟩ := va_join hP hD isC isR hC hR hn hdis (fun q h1 h2 => by rw [e1]; exact hk q h1 h2) hF hP1 hD1
  obtain ⟨t2, a1, b1⟩ := kk w1 T'.heap (locs ++ L) hw1 ⟨hP2, hD2, ⟨Nat.le_trans hS.1 (by rw [e1]; exact hz), fun q h1 h2 => by rw [e1, hk q (Nat.lt_of_lt_of_le h1 hS.1) (fun z => h2 (hF q z))]; exact hS.2.1 q h1 h2, fun q hq => by
      rcases List.mem_append.mp hq with h | h
      · exact hS.2.2 q h
      · exact hF _ (hL q h)⟩, hK, hN, hA⟩ T' rfl X'
  exact ⟨t2, st t2 a1, b1⟩
/-- a constructor of a nest mate -/
theorem call_IN (X : CallFix p m c cc nL s args Ts own) (hTs : ∀ w ∈ TB, w ∈ Ts) (Z : ZZ D cI ws A s H locs) (isC isR : List Nat) (hC : isC.map (fun i => ws[i]?) = wc.map some) (hR0 : isR.map (fun i => ws[i]?) = wr.map some) (hnC : va_nd isC = true) (hn : va_nd isR = true) (hdis : ∀ i ∈ isR, i ∉ isC) (hlk : Cond.methodLinkNest own index y host ∈ NL) (hins : Cond.instanceMethod y ∈ TB) (hini : Cond.initialized y.cls ∈ TB) (hco : Cond.code y bytes maxL none ∈ TB) (hy : y.name = "<init>") (hM : MN l D cI y (.code y bytes maxL none) rm (.ref b :: As) wc P mc ms)
    (hd : HD y As.length) (hR : rm.frames + 1 ≤ R.frames ∧ 8 + (maxL + 11) + rm.locals ≤ R.locals) (h0 : rm.cells = mc ∧ rm.slots = ms)
    (hsize : ls.size = nL) (hst : st0 = As.reverse ++ .ref b :: rest) (hrm : (rest.map fun v => v.category).sum ≤ 8) (hcs : cells + mc ≤ R.cells ∧ slots + ms ≤ R.slots) (hdg : decode cc pc = .ok (.invokespecial index, 3))
    (kk : ∀ (w1 : va_W) (H1 : Heap) (locs1 : List Loc), P w1 → ZZ D cI (wr ++ w1) A s H1 locs1 → W p l e R s m args below meth c H1 locs1 (cells + mc) (slots + ms) Q (F0 m (pc + 3) ls rest)) : W p l e R s m args below meth c H locs cells slots Q (F0 m pc ls st0) :=
  have ht := X.2.2.2.2
  callxN Z isC isR hC hR0 hn hdis
    (va_runIN (host := host) (As := As) (rest := rest) X (hM H.size) ⟨va_cnB As.length ht (good_k hTs hco) rfl h0.1 h0.2 (Z.2.2.2.2.1 _ hlk) (ht _ (hTs _ hini)) hd hR, hy, ht _ (hTs _ hins)⟩ ⟨pre_blind, pre_of Z isC hC hnC⟩ rfl rfl hsize hst (lv_room hrm) hdg hcs) kk
/-- a public constructor -/
theorem call_I (X : CallFix p m c cc nL s args Ts own) (hTs : ∀ w ∈ TB, w ∈ Ts) (Z : ZZ D cI ws A s H locs) (isC isR : List Nat) (hC : isC.map (fun i => ws[i]?) = wc.map some) (hR0 : isR.map (fun i => ws[i]?) = wr.map some) (hnC : va_nd isC = true) (hn : va_nd isR = true) (hdis : ∀ i ∈ isR, i ∉ isC) (hlk : Cond.methodLink own index y ∈ TB) (hins : Cond.instanceMethod y ∈ TB) (hini : Cond.initialized y.cls ∈ TB) (hco : Cond.code y bytes maxL none ∈ TB) (hy : y.name = "<init>") (hM : MN l D cI y (.code y bytes maxL none) rm (.ref b :: As) wc P mc ms)
    (hd : HD y As.length) (hR : rm.frames + 1 ≤ R.frames ∧ 8 + (maxL + 11) + rm.locals ≤ R.locals) (h0 : rm.cells = mc ∧ rm.slots = ms)
    (hsize : ls.size = nL) (hst : st0 = As.reverse ++ .ref b :: rest) (hrm : (rest.map fun v => v.category).sum ≤ 8) (hcs : cells + mc ≤ R.cells ∧ slots + ms ≤ R.slots) (hdg : decode cc pc = .ok (.invokespecial index, 3))
    (kk : ∀ (w1 : va_W) (H1 : Heap) (locs1 : List Loc), P w1 → ZZ D cI (wr ++ w1) A s H1 locs1 → W p l e R s m args below meth c H1 locs1 (cells + mc) (slots + ms) Q (F0 m (pc + 3) ls rest)) : W p l e R s m args below meth c H locs cells slots Q (F0 m pc ls st0) :=
  have ht := X.2.2.2.2
  callxN Z isC isR hC hR0 hn hdis
    (va_runI (As := As) (rest := rest) X (hM H.size) (cwI As.length ht (good_k hTs hco) rfl h0.1 h0.2 (ht _ (hTs _ hini)) (ht _ (hTs _ hlk)) (ht _ (hTs _ hins)) hy hd hR) ⟨pre_blind, pre_of Z isC hC hnC⟩ rfl rfl hsize hst (lv_room hrm) hdg hcs) kk
theorem MN.of (hy : plainName y.cls = true) (hyc : y.cls = own) (hyn : y.name = "<init>") (hlen : (lg_sl As).length ≤ nL)
    (body : ∀ (p : Program) (e : Env) (s : State) (m : MethodId) (args : Array Value) (below : List Frame) (meth : Method) (c : Code) (A : Nat → Prop) (ls : Array Slot) (Q : State → Prop), CallFix p m c cc nL s args (Cond.code y cc nL none :: TB) own → meth.name = "<init>" → ZZ D cI ws A s s.heap [] → lv_has ls nL (lv_args 0 As) →
      (∀ (w : va_W) (H : Heap) (locs : List Loc) (ls : Array Slot) (pc : Nat), ZZ D cI w A s H locs → P w → decode cc pc = .ok (.return_, 1) → W p l e rm s m args below meth c H locs mc ms Q (F0 m pc ls [])) →
      W p l e rm s m args below meth c s.heap [] 0 0 Q (F0 m 0 ls [])) : MN l D cI y (.code y cc nL none) rm As ws P mc ms := by
  intro sz
  refine Met.ofW (cc := cc) (maxL := nL) (ret := none) hy rfl ?_
  intro p e s m args below meth c s₁ B hml hv
  obtain ⟨rfl, hsz, hP, hK, hD0, hN⟩ := hv
  have hts := atoms_spec (ws := Cond.code y cc nL none :: TB) B.pre
  have hown : s.vm.findClass own = some m.cls := by rw [← hyc]; exact findClass_of_methodNamed B.named
  have hin : meth.name = "<init>" := (name_of_methodNamed B.named B.method).1.trans hyn
  have hlk := B.notSynchronized
  have hr := B.returns
  subst hsz
  have hD := hD0.self (sz := s.heap.size)
  have hA : ∀ q, s.heap.size ≤ q → va_A ws s.heap.size q := fun q h => Or.inr h
  rw [lg_entry_eq]
  refine body p e s m _ below meth c _ _ _ ⟨B.exec, B.bytes, hml, hown, hts⟩ hin ⟨hP, hD, va_S.rf, hK, hN, hA⟩ (lv_entry As hlen) ?_
  intro w H locs ls pc Z hPw hdg
  exact W.vret B.exec B.bytes hr (fun t ht hW => ⟨rfl, ⟨w, hPw, by rw [ht]; exact Z.1, va_K.moved hW.alike Z.2.2.2.1, Z.2.1⟩, Z.2.2.1.F ht⟩) Z.2.2.1.2.2 hdg hlk
theorem z_obj (X : CallFix p m c cc nL s args Ts own) (hTs : ∀ w ∈ TB, w ∈ Ts) (hlk : Cond.methodLink own index objectInit ∈ TB) (hls : ls.size = nL) {a : Nat} (hd : decode cc pc = .ok (.invokespecial index, 3)) (h1 : 1 ≤ R.frames) (h2 : (rest.map fun v => v.category).sum + 12 ≤ R.locals)
    (kk : W p l e R s m args below meth c H locs cells slots Q (F0 m (pc + 3) ls rest)) : W p l e R s m args below meth c H locs cells slots Q (F0 m pc ls (.ref a :: rest)) := by
  refine W.objInit X.1 X.2.1 X.2.2.2.1 (X.2.2.2.2 _ (hTs _ hlk)) (X.2.2.2.2 _ (hTs _ kw_40)) (X.2.2.2.2 _ (hTs _ kw_41)) rfl (by rw [X.2.2.1]; exact hls) rfl hd h1 ?_ ?_
  · show 2 * 0 + _ + 12 ≤ _
    omega
  · exact kk
theorem cI_eq {cA : ClassId} (h : va_K D vwCl [(cI, .int), (cA, .int)] s) : cA = cI := by
  have h1 : s.vm.findClass ("[" ++ FieldType.int.toString) = some cI := (h.2 0 _ rfl).2
  have h2 : s.vm.findClass ("[" ++ FieldType.int.toString) = some cA := (h.2 1 _ rfl).2
  exact Option.some.inj (h2.symm.trans h1)
theorem z_newa (X : CallFix p m c cc nL s args Ts own) (hTs : ∀ w ∈ TB, w ∈ Ts) (Z : ZZ D cI ws A s H locs) {v : Int32} {N : Nat} (hn : ¬ v < 0) (hN : v.toNatClampNeg = N) (hby : N * componentBytes FieldType.int ≤ 536870912) (hce : cells + 1 ≤ R.cells) (hsl : slots + N ≤ R.slots) (hdg : decode cc pc = .ok (.newarray .int, 2))
    (kk : ∀ (q : Nat) (H1 : Heap), ZZ D cI (ws ++ [(q, .inl (cI, N, .inl (fun _ => 0)))]) A s H1 locs → W p l e R s m args below meth c H1 locs (cells + 1) (slots + N) Q (F0 m (pc + 2) ls (.ref q :: rest))) : W p l e R s m args below meth c H locs cells slots Q (F0 m pc ls (.int v :: rest)) := by
  refine va_newa (atype := .int) (ty := .int) (a0 := (N, .inl (fun _ => 0))) X.1 X.2.1 (X.2.2.2.2 _ (hTs _ kw_66)) rfl Z.2.2.2.1 Z.1 Z.2.1 Z.2.2.1 Z.2.2.2.2.2 (fun _ => rfl) hn hN hby hce hsl hdg (fun q cA H1 hK hP hD hS => ?_)
  have e := cI_eq hK
  subst e
  exact kk q H1 ⟨hP, hD, hS, Z.2.2.2⟩
theorem z_putF {ref : String} {T : u_T} {N : Nat} {a : Nat} (X : CallFix p m c cc nL s args Ts own) (hTs : ∀ w ∈ TB, w ∈ Ts) (Z : ZZ D cI ws A s H locs) (hin : ∀ w ∈ u_ws C T N, w ∈ TB) (ty0 : Nat → FieldType) (hty : ∀ k, k < N → parseFieldDescriptor (T k).2.2.1 = some (ty0 k)) (hnm : ∀ a, a < N → ∀ b, b < N → a ≠ b → (T a).2.1 ≠ (T b).2.1) (q0 : Nat) (he : ws[q0]? = some (a, .inr (ci, fs))) (hc : vwCl[ci]? = some (C, T, N)) (k : Nat) (hk : k < N) (hl : Cond.fieldLink own index ref (T k).2.1 (T k).2.2.1 ∈ TB) (hrf : (T k).1 = ref) (hfin : (T k).2.2.2 = true) (hinit : meth.name = "<init>") (hdecl : (T k).1 = own) {ty : FieldType} {v : Value} (hd : parseFieldDescriptor (T k).2.2.1 = some ty) (hn : narrow ty v = v) (hfit : fits ty v = true) (hlen : k < fs.length) (hw : ws.set q0 (a, .inr (ci, fs.set k v)) = ws') (hdg : decode cc pc = .ok (.putfield index, 3))
    (kk : ∀ (H1 : Heap) (locs1 : List Loc), ZZ D cI ws' A s H1 locs1 → W p l e R s m args below meth c H1 locs1 cells slots Q (F0 m (pc + 3) ls rest)) : W p l e R s m args below meth c H locs cells slots Q (F0 m pc ls (v :: .ref a :: rest)) := by
  subst hrf; subst hw
  exact va_putF X.1 X.2.1 X.2.2.2.2 (fun w h => hTs w (hin w h)) ty0 hty hnm X.2.2.2.1 Z.2.2.2.1 Z.1 Z.2.1 Z.2.2.1 q0 he hc k hk (X.2.2.2.2 _ (hTs _ hl)) (fun _ h => h) hfin hinit hdecl hd hn hfit hlen hdg (fun H1 locs1 h1 h2 h3 => kk H1 locs1 ⟨h1, h2, h3, Z.2.2.2⟩)
theorem z_new {T : u_T} {N : Nat} (X : CallFix p m c cc nL s args Ts own) (hTs : ∀ w ∈ TB, w ∈ Ts) (Z : ZZ D cI ws A s H locs) (hin : ∀ w ∈ u_ws C T N, w ∈ TB) (ty0 : Nat → FieldType) (hty : ∀ k, k < N → parseFieldDescriptor (T k).2.2.1 = some (ty0 k)) (hcl : Cond.classLink own index C ∈ TB) (hins : Cond.instantiable C N ∈ TB) (hini : Cond.initialized C ∈ TB) (hc : vwCl[ci]? = some (C, T, N)) (hfs : ∀ j, j < N → defaultValue (ty0 j) = vp_V fs j) (hce : cells + 1 ≤ R.cells) (hsl : slots + N ≤ R.slots) (hdg : decode cc pc = .ok (.new index, 3))
    (kk : ∀ (q : Nat) (H1 : Heap), ZZ D cI (ws ++ [(q, .inr (ci, fs))]) A s H1 locs → W p l e R s m args below meth c H1 locs (cells + 1) (slots + N) Q (F0 m (pc + 3) ls (.ref q :: rest))) : W p l e R s m args below meth c H locs cells slots Q (F0 m pc ls rest) :=
  have ht := X.2.2.2.2
  va_new X.1 X.2.1 ht (fun w h => hTs w (hin w h)) ty0 hty X.2.2.2.1 (ht _ (hTs _ hcl)) (ht _ (hTs _ hins)) (ht _ (hTs _ hini)) Z.2.2.2.1 Z.1 Z.2.1 Z.2.2.1 Z.2.2.2.2.2 hc hfs hce hsl hdg (fun q H1 hP hD hS => kk q H1 ⟨hP, hD, hS, Z.2.2.2⟩)
end CTORA
def qf (a0 a1 a2 a3 a4 a5 a6 a7 : Nat) : Nat → Nat := fun k => match k with
  | 0 => a0
  | 1 => a1
  | 2 => a2
  | 3 => a3
  | 4 => a4
  | 5 => a5
  | 6 => a6
  | _ => a7
theorem fs_X0 : ∀ j, j < 5 → defaultValue (tyX0 j) = vp_V [.null, .int 0, .int 0, .int 0, .int 0] j := by
  intro j hj
  have : j = 0 ∨ j = 1 ∨ j = 2 ∨ j = 3 ∨ j = 4 := by omega
  rcases this with rfl | rfl | rfl | rfl | rfl <;> rfl
theorem fs_X1 : ∀ j, j < 2 → defaultValue (tyX1 j) = vp_V [.null, .int 0] j := by
  intro j hj
  have : j = 0 ∨ j = 1 := by omega
  rcases this with rfl | rfl <;> rfl
set_option maxRecDepth 20000 in
set_option maxHeartbeats 4000000 in
theorem c_X0_init (l : Launch) (D : va_G) (cI : ClassId) (a : Nat) : MN l D cI yX0_init (.code yX0_init cX0_init 1 none) ({ frames := 1, cells := 1, slots := 400, locals := 12 } : Room) [.ref a] [(a, .inr (0, [.null, .int 0, .int 0, .int 0, .int 0]))] (fun w => ∃ b, w = rdw a b cI 0 0 0 0 (fun _ => 0)) 1 400 := by
  refine MN.of (own := RX0) (by decide) rfl rfl (Nat.le_of_ble_eq_true rfl) ?_
  intro p e s m args below meth c A ls Q X hin Z hl hret
  have hT : ∀ w ∈ TB, w ∈ (Cond.code yX0_init cX0_init 1 none :: TB) := fun _ h => List.mem_cons_of_mem _ h
  have hl : lv_has ls 1 [(0, .ref a)] := hl
  refine lv_aload_n X.1 X.2.1 dX0_init_0 rfl (lv_at hl 0 rfl) ?_
  refine z_obj X hT kw_47 hl.1 dX0_init_1 (by decide) (Nat.le_of_ble_eq_true rfl) ?_
  refine lv_aload_n X.1 X.2.1 dX0_init_4 rfl (lv_at hl 0 rfl) ?_
  refine lv_sipush (v := 400) X.1 X.2.1 dX0_init_5 (by decide) ?_
  refine z_newa (N := 400) X hT Z (by decide) (by decide) (by decide) (by decide) (by decide) dX0_init_8 (fun b H Z => ?_)
  refine z_putF (ws' := rdw a b cI 0 0 0 0 (fun _ => 0)) X hT Z iX0 tyX0 tyX0_ok nmX0 0 rfl rfl 0 (by decide) kw_48 rfl rfl hin rfl (ty := .array .int) (by decide +kernel) rfl rfl (Nat.le_of_ble_eq_true rfl) rfl dX0_init_10 (fun H locs Z => ?_)
  exact hret _ _ _ _ _ Z ⟨b, rfl⟩ dX0_init_13
set_option maxRecDepth 20000 in
set_option maxHeartbeats 4000000 in
theorem c_X1_init (l : Launch) (D : va_G) (cI : ClassId) (a : Nat) : MN l D cI yX1_init (.code yX1_init cX1_init 1 none) ({ frames := 1, cells := 1, slots := 64, locals := 12 } : Room) [.ref a] [(a, .inr (1, [.null, .int 0]))] (fun w => ∃ b, w = rcw a b cI 0 (fun _ => 0)) 1 64 := by
  refine MN.of (own := RX1) (by decide) rfl rfl (Nat.le_of_ble_eq_true rfl) ?_
  intro p e s m args below meth c A ls Q X hin Z hl hret
  have hT : ∀ w ∈ TB, w ∈ (Cond.code yX1_init cX1_init 1 none :: TB) := fun _ h => List.mem_cons_of_mem _ h
  have hl : lv_has ls 1 [(0, .ref a)] := hl
  refine lv_aload_n X.1 X.2.1 dX1_init_0 rfl (lv_at hl 0 rfl) ?_
  refine z_obj X hT kw_72 hl.1 dX1_init_1 (by decide) (Nat.le_of_ble_eq_true rfl) ?_
  refine lv_aload_n X.1 X.2.1 dX1_init_4 rfl (lv_at hl 0 rfl) ?_
  refine lv_bipush (v := 64) X.1 X.2.1 dX1_init_5 (by decide) ?_
  refine z_newa (N := 64) X hT Z (by decide) (by decide) (by decide) (by decide) (by decide) dX1_init_7 (fun b H Z => ?_)
  refine z_putF (ws' := rcw a b cI 0 (fun _ => 0)) X hT Z iX1 tyX1 tyX1_ok nmX1 0 rfl rfl 0 (by decide) kw_73 rfl rfl hin rfl (ty := .array .int) (by decide +kernel) rfl rfl (Nat.le_of_ble_eq_true rfl) rfl dX1_init_9 (fun H locs Z => ?_)
  exact hret _ _ _ _ _ Z ⟨b, rfl⟩ dX1_init_12
