/-! constructors: contracts that make cells; calls on one part of the world -/
def Bn (D : va_G) (T : TyL) (A : Nat → Prop) (W1 : (Nat → Nat) → va_W) : (Nat → Nat) → State → Prop := fun u t => va_P D vwCl (W1 u) t.heap ∧ va_K D vwCl T t ∧ va_D A (W1 u)
def CtN (l : Launch) (y : MethodName) (ws : List Cond) (rm : Room) (D : va_G) (T : TyL) (W0 : va_W) (av : List Value) (W1 : (Nat → Nat) → va_W) (mc ms : Nat) : Prop := ∀ sz : Nat, Met l y ws rm (PcW D T W0 av sz) (va_Qv (fun (_ : Nat → Nat) => True) (Bn D T (va_A W0 sz) W1) (va_A W0 sz)) mc ms (va_A W0 sz)
def QN (below : List Frame) (args : Array Value) (s : State) (A : Nat → Prop) (D : va_G) (T : TyL) (W1 : (Nat → Nat) → va_W) (mc ms : Nat) : State → Prop := MQ below (va_Qv (fun (_ : Nat → Nat) => True) (Bn D T A W1) A) args s mc ms A
set_option maxHeartbeats 4000000 in
theorem cn_entry {l : Launch} {y : MethodName} {ws ws' : List Cond} {rm : Room} {D : va_G} {T : TyL} {W0 : va_W} {av : List Value} {cc : ByteArray} {maxL : Nat} {ret : Option FieldType} {own : String} {Qc : Array Value → State → Outcome → State → Prop} {sz mc ms : Nat} (hy : plainName y.cls = true) (ho : y.cls = own) (hw : ws = Cond.code y cc maxL ret :: ws') (hlen : (lg_sl av).length ≤ maxL) {ll : List (Nat × Value)} (hll : lv_args 0 av = ll)
    (body : ∀ (p : Program) (e : Env) (s : State) (m : MethodId) (args : Array Value) (below : List Frame) (meth : Method) (c : Code), s.heap.size = sz → Cx p s m args meth c cc maxL ret own ws (va_A W0 sz) D T → (meth.name = y.name) → va_P D vwCl W0 s.heap → va_D (va_A W0 sz) W0 → ∀ ls : Array Slot, lv_has ls maxL ll → W p l e rm s m args below meth c s.heap [] 0 0 (MQ below Qc args s mc ms (va_A W0 sz)) (F0 m 0 ls [])) : Met l y ws rm (PcW D T W0 av sz) Qc mc ms (va_A W0 sz) := by
  refine Met.ofW (cc := cc) (maxL := maxL) (ret := ret) hy hw ?_
  intro p e s m args below meth c s₁ B hml hv
  obtain ⟨rfl, hsz, hP, hK, hD0, hN⟩ := hv
  subst hsz
  have hts := atoms_spec (ws := ws) B.pre
  have hown : s.vm.findClass y.cls = some m.cls := findClass_of_methodNamed B.named
  rw [ho] at hown
  rw [lg_entry_eq]
  exact body p e s m _ below meth c rfl ⟨B.exec, B.bytes, B.returns, hml, hown, hts, B.notSynchronized, hN, hK, fun q h => Or.inr h⟩ (name_of_methodNamed B.named B.method).1 hP (hD0.self (sz := s.heap.size)) _ (hll ▸ lv_entry av hlen)
theorem va_nd_lt : ∀ (l : List Nat), l.Pairwise (· < ·) → va_nd l = true
  | [], _ => rfl
  | a :: l, h => by
    obtain ⟨h1, h2⟩ := List.pairwise_cons.mp h
    have h3 : a ∉ l := fun q => Nat.lt_irrefl _ (h1 a q)
    show (decide (a ∉ l) && va_nd l) = true
    rw [va_nd_lt l h2, decide_eq_true h3]; rfl
theorem ix_l (w1 w2 : va_W) : (List.range w1.length).map (fun i => (w1 ++ w2)[i]?) = w1.map some := by
  apply List.ext_getElem (by simp)
  intro k h1 h2
  simp only [List.length_map, List.length_range] at h1
  simp only [List.getElem_map, List.getElem_range]
  rw [List.getElem?_append_left h1, List.getElem?_eq_getElem h1]
theorem ix_r (w1 w2 : va_W) : ((List.range w2.length).map (fun i => w1.length + i)).map (fun i => (w1 ++ w2)[i]?) = w2.map some := by
  apply List.ext_getElem (by simp)
  intro k h1 h2
  simp only [List.length_map, List.length_range] at h1
  simp only [List.getElem_map, List.getElem_range]
  rw [List.getElem?_append_right (by omega), Nat.add_sub_cancel_left, List.getElem?_eq_getElem h1]
theorem ix_nd (n m : Nat) : va_nd ((List.range n).map (fun i => m + i)) = true := by
  apply va_nd_lt
  rw [List.pairwise_map]
  exact List.pairwise_lt_range.imp (fun h => by omega)
theorem ix_dis (n m : Nat) : ∀ i ∈ (List.range n).map (fun i => m + i), i ∉ List.range m := by
  intro i hi h
  obtain ⟨j, -, rfl⟩ := List.mem_map.mp hi
  have := List.mem_range.mp h
  omega
theorem sp_P1 {D : va_G} {cl : List vw_C} {w1 w2 : va_W} {H : Heap} (h : va_P D cl (w1 ++ w2) H) : va_P D cl w1 H := by
  intro k q hk
  have hl : k < w1.length := (List.getElem?_eq_some_iff.mp hk).1
  exact h k q (by rw [List.getElem?_append_left hl]; exact hk)
theorem sp_D1 {A : Nat → Prop} {w1 w2 : va_W} (h : va_D A (w1 ++ w2)) : va_D A w1 := by
  refine h.sub (List.range w1.length) (va_nd_lt _ List.pairwise_lt_range) (ix_l w1 w2)
theorem sp_join {A0 : Nat → Prop} {D : va_G} {cl : List vw_C} {wc wr w1 : va_W} {H H1 : Heap} (hP : va_P D cl (wc ++ wr) H) (hD : va_D A0 (wc ++ wr)) (hk : ∀ q : Nat, q < H.size → ¬ va_A wc H.size q → H1[q]? = H[q]?) (hF : ∀ q, va_A wc H.size q → A0 q) (hP1 : va_P D cl w1 H1) (hD1 : va_D (va_A wc H.size) w1) : va_P D cl (wr ++ w1) H1 ∧ va_D A0 (wr ++ w1) :=
  va_join hP hD (List.range wc.length) ((List.range wr.length).map (fun i => wc.length + i)) (ix_l wc wr) (ix_r wc wr) (ix_nd _ _) (ix_dis _ _) hk hF hP1 hD1
section CTORS
variable {p : Program} {l : Launch} {e : Env} {R : Room} {s : State} {m : MethodId} {args : Array Value} {below : List Frame} {meth : Method} {c : Code} {H : Heap} {locs : List Loc} {cells slots mc ms : Nat} {cc : ByteArray} {nL : Nat} {ret : Option FieldType} {own : String} {Ts : List Cond} {A : Nat → Prop} {D : va_G} {T : TyL} {W0 : va_W} {pc : Nat} {ls : Array Slot} {Q : State → Prop} {rest st0 : List Value} {y : MethodName} {bytes : ByteArray} {maxL n index : Nat} {rt : Option FieldType} {ws : List Cond} {rmc : Room} {As : List Value} {b : Nat} {C host : String} {cI cJ cZ : ClassId} {w wr wc : va_W}
theorem ret_N (C0 : Cx p s m args meth c cc nL none own Ts A D T) {W1 : (Nat → Nat) → va_W} (u : Nat → Nat) (hP : va_P D vwCl (W1 u) H) (hD : va_D A (W1 u)) (hS : va_S A s.heap H locs) (hdg : decode cc pc = .ok (.return_, 1)) : W p l e R s m args below meth c H locs mc ms (QN below args s A D T W1 mc ms) (F0 m pc ls []) := by
  obtain ⟨hx, hb, hr, hml, hown, hts, hlocks, hN, hK, hA⟩ := C0
  exact W.vret hx hb hr (fun t ht hW => ⟨⟨u, rfl, trivial, by rw [ht]; exact hP, va_K.moved hW.alike hK, hD⟩, hS.F ht⟩) hS.2.2 hdg
theorem new_I (C0 : Cx p s m args meth c cc nL ret own Ts A D (ty3 cI cJ cZ)) (harr : (Cond.arrayClass .int).before args s = true) (hP : va_P D vwCl w H) (hD : va_D A w) (hS : va_S A s.heap H locs) {k : Int32} {N : Nat} (hn : ¬ k < 0) (hN : k.toNatClampNeg = N) (hbytes : N * componentBytes .int ≤ 536870912) (hcells : cells + 1 ≤ R.cells) (hslots : slots + N ≤ R.slots) (hdg : decode cc pc = .ok (.newarray .int, 2))
    (kk : ∀ (q : Nat) (H1 : Heap), va_P D vwCl (w ++ [(q, .inl (cI, N, .inl (fun _ => 0)))]) H1 → va_D A (w ++ [(q, .inl (cI, N, .inl (fun _ => 0)))]) → va_S A s.heap H1 locs → W p l e R s m args below meth c H1 locs (cells + 1) (slots + N) Q (F0 m (pc + 2) ls (.ref q :: rest))) : W p l e R s m args below meth c H locs cells slots Q (F0 m pc ls (.int k :: rest)) := by
  obtain ⟨hx, hb, hr, hml, hown, hts, hlocks, hN0, hK, hA⟩ := C0
  refine va_newa (atype := .int) (ty := .int) (a0 := (N, .inl (fun _ => 0))) hx hb harr rfl hK hP hD hS hA (fun _ => by rfl) hn hN hbytes hcells hslots hdg (fun q cA H1 hK1 hP1 hD1 hS1 => ?_)
  have h3 := (hK1.2 3 (cA, .int) rfl).2
  have h4 := (hK1.2 0 (cI, .int) rfl).2
  have e1 : s.vm.findClass ("[" ++ FieldType.int.toString) = some cA := h3
  have e2 : s.vm.findClass ("[" ++ FieldType.int.toString) = some cI := h4
  have e3 : cA = cI := Option.some.inj (e1.symm.trans e2)
  subst e3
  exact kk q H1 hP1 hD1 hS1
theorem new_Z (C0 : Cx p s m args meth c cc nL ret own Ts A D (ty3 cI cJ cZ)) (harr : (Cond.arrayClass .boolean).before args s = true) (hP : va_P D vwCl w H) (hD : va_D A w) (hS : va_S A s.heap H locs) {k : Int32} {N : Nat} (hn : ¬ k < 0) (hN : k.toNatClampNeg = N) (hbytes : N * componentBytes .boolean ≤ 536870912) (hcells : cells + 1 ≤ R.cells) (hslots : slots + N ≤ R.slots) (hdg : decode cc pc = .ok (.newarray .boolean, 2))
    (kk : ∀ (q : Nat) (H1 : Heap), va_P D vwCl (w ++ [(q, .inl (cZ, N, .inl (fun _ => 0)))]) H1 → va_D A (w ++ [(q, .inl (cZ, N, .inl (fun _ => 0)))]) → va_S A s.heap H1 locs → W p l e R s m args below meth c H1 locs (cells + 1) (slots + N) Q (F0 m (pc + 2) ls (.ref q :: rest))) : W p l e R s m args below meth c H locs cells slots Q (F0 m pc ls (.int k :: rest)) := by
  obtain ⟨hx, hb, hr, hml, hown, hts, hlocks, hN0, hK, hA⟩ := C0
  refine va_newa (atype := .boolean) (ty := .boolean) (a0 := (N, .inl (fun _ => 0))) hx hb harr rfl hK hP hD hS hA (fun _ => by rfl) hn hN hbytes hcells hslots hdg (fun q cA H1 hK1 hP1 hD1 hS1 => ?_)
  have h3 := (hK1.2 3 (cA, .boolean) rfl).2
  have h4 := (hK1.2 2 (cZ, .boolean) rfl).2
  have e1 : s.vm.findClass ("[" ++ FieldType.boolean.toString) = some cA := h3
  have e2 : s.vm.findClass ("[" ++ FieldType.boolean.toString) = some cZ := h4
  have e3 : cA = cZ := Option.some.inj (e1.symm.trans e2)
  subst e3
  exact kk q H1 hP1 hD1 hS1
theorem new_J (C0 : Cx p s m args meth c cc nL ret own Ts A D (ty3 cI cJ cZ)) (harr : (Cond.arrayClass .long).before args s = true) (hP : va_P D vwCl w H) (hD : va_D A w) (hS : va_S A s.heap H locs) {k : Int32} {N : Nat} (hn : ¬ k < 0) (hN : k.toNatClampNeg = N) (hbytes : N * componentBytes .long ≤ 536870912) (hcells : cells + 1 ≤ R.cells) (hslots : slots + N ≤ R.slots) (hdg : decode cc pc = .ok (.newarray .long, 2))
    (kk : ∀ (q : Nat) (H1 : Heap), va_P D vwCl (w ++ [(q, .inl (cJ, N, .inr (.inl (fun _ => 0))))]) H1 → va_D A (w ++ [(q, .inl (cJ, N, .inr (.inl (fun _ => 0))))]) → va_S A s.heap H1 locs → W p l e R s m args below meth c H1 locs (cells + 1) (slots + N) Q (F0 m (pc + 2) ls (.ref q :: rest))) : W p l e R s m args below meth c H locs cells slots Q (F0 m pc ls (.int k :: rest)) := by
  obtain ⟨hx, hb, hr, hml, hown, hts, hlocks, hN0, hK, hA⟩ := C0
  refine va_newa (atype := .long) (ty := .long) (a0 := (N, .inr (.inl (fun _ => 0)))) hx hb harr rfl hK hP hD hS hA (fun _ => by rfl) hn hN hbytes hcells hslots hdg (fun q cA H1 hK1 hP1 hD1 hS1 => ?_)
  have h3 := (hK1.2 3 (cA, .long) rfl).2
  have h4 := (hK1.2 1 (cJ, .long) rfl).2
  have e1 : s.vm.findClass ("[" ++ FieldType.long.toString) = some cA := h3
  have e2 : s.vm.findClass ("[" ++ FieldType.long.toString) = some cJ := h4
  have e3 : cA = cJ := Option.some.inj (e1.symm.trans e2)
  subst e3
  exact kk q H1 hP1 hD1 hS1
theorem run_I {Qc : Array Value → State → Outcome → State → Prop} {free : Addr → Prop} (C0 : Cx p s m args meth c cc nL ret own Ts A D T) (hM : Met l y ws rmc (PcW D T W0 (.ref b :: As) H.size) Qc mc ms free) (cw : CallB R s args own index y bytes maxL none ws rmc mc ms n ∧ y.name = "<init>" ∧ (Cond.instanceMethod y).before args s = true) (hP : va_P D vwCl W0 H) (hD : va_D A W0)
    (hn : As.length = n) (hl : ls.size = nL) (hst : st0 = As.reverse ++ .ref b :: rest) (hW : (rest.map fun v => v.category).sum ≤ 8) (hdg : decode cc pc = .ok (.invokespecial index, 3)) (hf : cells + mc ≤ R.cells ∧ slots + ms ≤ R.slots) :
    va_Run p l e R s m args below meth c H locs cells slots mc ms (F0 m pc ls st0) rest (Qc (Value.ref b :: As).toArray) free := by
  have C1 := C0
  obtain ⟨hx, hb, hr, hml, hown, hts, hlocks, hN, hK, hA⟩ := C0
  exact va_runI (As := As) (rest := rest) ⟨hx, hb, hml, hown, hts⟩ hM cw (pre_S C1 hP hD (av := .ref b :: As)) rfl hn hl hst (lv_room hW) hdg hf
theorem run_IN {Qc : Array Value → State → Outcome → State → Prop} {free : Addr → Prop} (C0 : Cx p s m args meth c cc nL ret own Ts A D T) (hM : Met l y ws rmc (PcW D T W0 (.ref b :: As) H.size) Qc mc ms free) (cw : va_CN R s args own index y host bytes maxL none ws rmc mc ms n ∧ y.name = "<init>" ∧ (Cond.instanceMethod y).before args s = true) (hP : va_P D vwCl W0 H) (hD : va_D A W0)
    (hn : As.length = n) (hl : ls.size = nL) (hst : st0 = As.reverse ++ .ref b :: rest) (hW : (rest.map fun v => v.category).sum ≤ 8) (hdg : decode cc pc = .ok (.invokespecial index, 3)) (hf : cells + mc ≤ R.cells ∧ slots + ms ≤ R.slots) :
    va_Run p l e R s m args below meth c H locs cells slots mc ms (F0 m pc ls st0) rest (Qc (Value.ref b :: As).toArray) free := by
  have C1 := C0
  obtain ⟨hx, hb, hr, hml, hown, hts, hlocks, hN, hK, hA⟩ := C0
  exact va_runIN (As := As) (rest := rest) ⟨hx, hb, hml, hown, hts⟩ hM cw (pre_S C1 hP hD (av := .ref b :: As)) rfl hn hl hst (lv_room hW) hdg hf
theorem run_VW {Qc : Array Value → State → Outcome → State → Prop} {free : Addr → Prop} (C0 : Cx p s m args meth c cc nL ret own Ts A D T) (hM : Met l y ws rmc (PcW D T W0 (.ref b :: As) H.size) Qc 0 0 free) (cw : CallW R s args own C index y bytes maxL rt ws rmc 0 0 n) (hP : va_P D vwCl W0 H) (hD : va_D A W0) {ci q0 : Nat} {tq : u_T} {nq : Nat} {fs : List Value} (hc : vwCl[ci]? = some (C, tq, nq)) (he : W0[q0]? = some (b, .inr (ci, fs)))
    (hn : As.length = n) (hl : ls.size = nL) (hst : st0 = As.reverse ++ .ref b :: rest) (hW : (rest.map fun v => v.category).sum ≤ 8) (hdg : decode cc pc = .ok (.invokevirtual index, 3)) (hf : cells + 0 ≤ R.cells ∧ slots + 0 ≤ R.slots) :
    va_Run p l e R s m args below meth c H locs cells slots 0 0 (F0 m pc ls st0) rest (Qc (Value.ref b :: As).toArray) free := by
  have C1 := C0
  obtain ⟨hx, hb, hr, hml, hown, hts, hlocks, hN, hK, hA⟩ := C0
  have h1 := pre_S C1 hP hD (av := .ref b :: As)
  exact va_runV (As := As) (rest := rest) ⟨hx, hb, hml, hown, hts⟩ hM cw ⟨h1.1, va_recv hK hP hc he, h1.2⟩ rfl hn hl hst (lv_room hW) hdg hf
/-- behind a constructor's call: its cells come behind the rest -/
theorem call_N {a : Array Value} {W1 : (Nat → Nat) → va_W} (C0 : Cx p s m args meth c cc nL ret own Ts A D T) (hr : va_Run p l e R s m args below meth c H locs cells slots mc ms (F0 m pc ls st0) rest (va_Qv (fun (_ : Nat → Nat) => True) (Bn D T (va_A wc H.size) W1) (va_A wc H.size) a) (va_A wc H.size)) (hP : va_P D vwCl w H) (hD : va_D A w) (hS : va_S A s.heap H locs) (isC isR : List Nat) (hC : isC.map (fun i => w[i]?) = wc.map some) (hR : isR.map (fun i => w[i]?) = wr.map some) (hnC : va_nd isC = true) (hn : va_nd isR = true) (hdis : ∀ i ∈ isR, i ∉ isC)
    (kk : ∀ (u : Nat → Nat) (H1 : Heap) (locs1 : List Loc), va_P D vwCl (wr ++ W1 u) H1 → va_D A (wr ++ W1 u) → va_S A s.heap H1 locs1 → W p l e R s m args below meth c H1 locs1 (cells + mc) (slots + ms) Q (F0 m (pc + 3) ls rest)) : W p l e R s m args below meth c H locs cells slots Q (F0 m pc ls st0) := by
  obtain ⟨hx, hb, hrr, hml, hown, hts, hlocks, hN, hK, hA⟩ := C0
  have hF := va_freeAll (hD.sub isC hnC hC) hS hA
  refine va_callv hr hS (fun q _ h => hF q h) hF (fun u t H1 locs1 ht hvm hw hB hz1 hk1 hS1 => ?_)
  obtain ⟨hP1, hK1, hD1⟩ := hB
  rw [ht] at hP1
  obtain ⟨hP2, hD2⟩ := va_join hP hD isC isR hC hR hn hdis hk1 hF hP1 hD1
  exact kk u H1 locs1 hP2 hD2 hS1
/-- a call of a void method in a world that has no other cells, some cells made before -/
theorem call_VW {a : Array Value} {W1 : va_W} (C0 : Cx p s m args meth c cc nL ret own Ts A D T) (hr : va_Run p l e R s m args below meth c H locs cells slots 0 0 (F0 m pc ls st0) rest (va_Qv (fun (_ : Unit) => True) (Bw D T (va_A W0 H.size) W1) (va_A W0 H.size) a) (va_A W0 H.size)) (hD : va_D A W0) (hS : va_S A s.heap H locs)
    (kk : ∀ (H1 : Heap) (locs1 : List Loc), va_P D vwCl W1 H1 → va_D A W1 → va_S A s.heap H1 locs1 → W p l e R s m args below meth c H1 locs1 cells slots Q (F0 m (pc + 3) ls rest)) : W p l e R s m args below meth c H locs cells slots Q (F0 m pc ls st0) := by
  obtain ⟨hx, hb, hrr, hml, hown, hts, hlocks, hN, hK, hA⟩ := C0
  have hF := va_freeAll hD hS hA
  refine va_callv hr hS (fun q _ h => hF q h) hF (fun u t H1 locs1 ht hvm hw hB hz1 hk1 hS1 => ?_)
  obtain ⟨hP1, hK1, hD1⟩ := hB
  rw [ht] at hP1
  exact kk H1 locs1 hP1 (hD1.weaken (fun k q _ h => hF q.1 h)) hS1
/-- a call on the first part of the world; what comes back stands behind the rest -/
theorem call_IW {a : Array Value} {r : Int32} {W1 : va_W} (C0 : Cx p s m args meth c cc nL ret own Ts A D T) (hr : va_Run p l e R s m args below meth c H locs cells slots 0 0 (F0 m pc ls st0) rest (va_Qi (fun r' (_ : Unit) => r' = r) (Bw D T (va_A wc H.size) W1) (va_A wc H.size) a) (va_A wc H.size)) (hP : va_P D vwCl (wc ++ wr) H) (hD : va_D A (wc ++ wr)) (hS : va_S A s.heap H locs)
    (kk : ∀ (H1 : Heap) (locs1 : List Loc), va_P D vwCl (wr ++ W1) H1 → va_D A (wr ++ W1) → va_S A s.heap H1 locs1 → W p l e R s m args below meth c H1 locs1 cells slots Q (F0 m (pc + 3) ls (.int r :: rest))) : W p l e R s m args below meth c H locs cells slots Q (F0 m pc ls st0) := by
  obtain ⟨hx, hb, hrr, hml, hown, hts, hlocks, hN, hK, hA⟩ := C0
  have hF := va_freeAll (sp_D1 hD) hS hA
  refine va_calli hr hS (fun q _ h => hF q h) hF (fun r1 u t H1 locs1 ht hvm hw hB hz1 hk1 hS1 => ?_)
  obtain ⟨hP1, hK1, hD1⟩ := hB
  subst hw
  rw [ht] at hP1
  obtain ⟨hP2, hD2⟩ := sp_join hP hD hk1 hF hP1 hD1
  exact kk H1 locs1 hP2 hD2 hS1
end CTORS
