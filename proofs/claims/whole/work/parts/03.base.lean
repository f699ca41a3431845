/-! MY BASE: whole-world contracts. A contract says: from a world W0 (a list of cells) with these arguments the method answers r in the world W1. -/
def nwL : List Cond := [.methodLinkNest RX1 30 yX7_leastOf RX7, .methodLinkNest RX1 34 yX7_greatestOf RX7, .methodLinkNest RX2 129 yX7_made RX7, .methodLinkNest RX3 82 yX7_made RX7, .methodLinkNest RX4 38 yX7_hasTarget RX7, .methodLinkNest RX4 42 yX7_readsA RX7, .methodLinkNest RX4 45 yX7_readsB RX7, .methodLinkNest RX6 89 yX7_made RX7, .methodLinkNest RX7 18 yX0_init RX7, .methodLinkNest RX7 25 yX4_init RX7]
/-- the nest words hold -/
def NW (U : State) : Prop := ∀ w ∈ nwL, va_Nw w U
theorem nwL_tab : ∀ w ∈ nwL, w.onTables = true := by decide +kernel
theorem nwL_form : ∀ w ∈ nwL, ∃ a i x h, w = .methodLinkNest a i x h := by
  intro w hw
  simp only [nwL, List.mem_cons, List.not_mem_nil, or_false] at hw
  rcases hw with h | h | h | h | h | h | h | h | h | h <;> exact ⟨_, _, _, _, h⟩
theorem NW.warm {s U : State} (hW : s.WarmedH U.vm) (h : NW s) : NW U := by
  intro w hw
  have h1 := h w hw
  obtain ⟨a, i, x, ho, rfl⟩ := nwL_form w hw
  exact va_Nw.warmM hW h1
theorem NW.same {s U : State} (hv : s.vm = U.vm) (h : NW s) : NW U := fun w hw => va_Nw.same (nwL_tab w hw) hv (h w hw)
abbrev ty3 (cI cJ cZ : ClassId) : List (ClassId × FieldType) := [(cI, .int), (cJ, .long), (cZ, .boolean)]
abbrev TyL : Type := List (ClassId × FieldType)
def PcW (D : va_G) (T : TyL) (W0 : va_W) (av : List Value) (sz : Nat) : Array Value → State → Prop := va_Pc av (fun U => U.heap.size = sz ∧ va_P D vwCl W0 U.heap ∧ va_K D vwCl T U ∧ va_D (fun _ => True) W0 ∧ NW U)
def Bw (D : va_G) (T : TyL) (A : Nat → Prop) (W1 : va_W) : Unit → State → Prop := fun _ t => va_P D vwCl W1 t.heap ∧ va_K D vwCl T t ∧ va_D A W1
theorem PcW.blind {D : va_G} {T : TyL} {W0 : va_W} {av : List Value} {sz : Nat} : FrameBlind (PcW D T W0 av sz) := by
  intro a U g mk q
  obtain ⟨q0, q1, qP, qK, qD, qN⟩ := q
  exact ⟨q0, q1, qP, va_K.moved (u := U) (U := U.calling g mk a) (Vm.Alike.refl U.vm) qK, qD, NW.same (s := U) (U := U.calling g mk a) rfl qN⟩
def CtI (l : Launch) (y : MethodName) (ws : List Cond) (rm : Room) (D : va_G) (T : TyL) (W0 : va_W) (av : List Value) (r : Int32) (W1 : va_W) : Prop := ∀ sz : Nat, Met l y ws rm (PcW D T W0 av sz) (va_Qi (fun r' (_ : Unit) => r' = r) (Bw D T (va_A W0 sz) W1) (va_A W0 sz)) 0 0 (va_A W0 sz)
def CtL (l : Launch) (y : MethodName) (ws : List Cond) (rm : Room) (D : va_G) (T : TyL) (W0 : va_W) (av : List Value) (r : Int64) (W1 : va_W) : Prop := ∀ sz : Nat, Met l y ws rm (PcW D T W0 av sz) (va_Ql (fun r' (_ : Unit) => r' = r) (Bw D T (va_A W0 sz) W1) (va_A W0 sz)) 0 0 (va_A W0 sz)
def CtV (l : Launch) (y : MethodName) (ws : List Cond) (rm : Room) (D : va_G) (T : TyL) (W0 : va_W) (av : List Value) (W1 : va_W) : Prop := ∀ sz : Nat, Met l y ws rm (PcW D T W0 av sz) (va_Qv (fun (_ : Unit) => True) (Bw D T (va_A W0 sz) W1) (va_A W0 sz)) 0 0 (va_A W0 sz)
/-- what holds all through a method's body -/
def Cx (p : Program) (s : State) (m : MethodId) (args : Array Value) (meth : Method) (c : Code) (cc : ByteArray) (nL : Nat) (ret : Option FieldType) (own : String) (Ts : List Cond) (A : Nat → Prop) (D : va_G) (T : TyL) : Prop :=
  p.tables.exec = Jvm.exec ∧ c.code = cc ∧ meth.sig.returnType = ret ∧ c.maxLocals = nL ∧ s.vm.findClass own = some m.cls ∧ (∀ w ∈ Ts, w.before args s = true) ∧ meth.locks = false ∧ NW s ∧ va_K D vwCl T s ∧ (∀ q, s.heap.size ≤ q → A q)
def QI (below : List Frame) (args : Array Value) (s : State) (A : Nat → Prop) (D : va_G) (T : TyL) (r : Int32) (W1 : va_W) : State → Prop := MQ below (va_Qi (fun r' (_ : Unit) => r' = r) (Bw D T A W1) A) args s 0 0 A
def QL (below : List Frame) (args : Array Value) (s : State) (A : Nat → Prop) (D : va_G) (T : TyL) (r : Int64) (W1 : va_W) : State → Prop := MQ below (va_Ql (fun r' (_ : Unit) => r' = r) (Bw D T A W1) A) args s 0 0 A
def QV (below : List Frame) (args : Array Value) (s : State) (A : Nat → Prop) (D : va_G) (T : TyL) (W1 : va_W) : State → Prop := MQ below (va_Qv (fun (_ : Unit) => True) (Bw D T A W1) A) args s 0 0 A
theorem va_freeAll {A0 : Nat → Prop} {ws : va_W} {H0 H : Heap} {locs : List Loc} (hD : va_D A0 ws) (hS : va_S A0 H0 H locs) (hA : ∀ q, H0.size ≤ q → A0 q) : ∀ q, va_A ws H.size q → A0 q := by
  intro q h
  rcases h with ⟨k, e, h⟩ | h
  · exact hD.2 k _ h
  · exact hA q (Nat.le_trans hS.1 h)
set_option maxHeartbeats 4000000 in
theorem ct_entry {l : Launch} {y : MethodName} {ws ws' : List Cond} {rm : Room} {D : va_G} {T : TyL} {W0 : va_W} {av : List Value} {cc : ByteArray} {maxL : Nat} {ret : Option FieldType} {own : String} {Qc : Array Value → State → Outcome → State → Prop} {sz : Nat} (hy : plainName y.cls = true) (ho : y.cls = own) (hw : ws = Cond.code y cc maxL ret :: ws') (hlen : (lg_sl av).length ≤ maxL) {ll : List (Nat × Value)} (hll : lv_args 0 av = ll)
    (body : ∀ (p : Program) (e : Env) (s : State) (m : MethodId) (args : Array Value) (below : List Frame) (meth : Method) (c : Code), s.heap.size = sz → Cx p s m args meth c cc maxL ret own ws (va_A W0 sz) D T → (meth.name = y.name) → va_P D vwCl W0 s.heap → va_D (va_A W0 sz) W0 → ∀ ls : Array Slot, lv_has ls maxL ll → W p l e rm s m args below meth c s.heap [] 0 0 (MQ below Qc args s 0 0 (va_A W0 sz)) (F0 m 0 ls [])) : Met l y ws rm (PcW D T W0 av sz) Qc 0 0 (va_A W0 sz) := by
  refine Met.ofW (cc := cc) (maxL := maxL) (ret := ret) hy hw ?_
  intro p e s m args below meth c s₁ B hml hv
  obtain ⟨rfl, hsz, hP, hK, hD0, hN⟩ := hv
  subst hsz
  have hts := atoms_spec (ws := ws) B.pre
  have hown : s.vm.findClass y.cls = some m.cls := findClass_of_methodNamed B.named
  rw [ho] at hown
  rw [lg_entry_eq]
  exact body p e s m _ below meth c rfl ⟨B.exec, B.bytes, B.returns, hml, hown, hts, B.notSynchronized, hN, hK, fun q h => Or.inr h⟩ (name_of_methodNamed B.named B.method).1 hP (hD0.self (sz := s.heap.size)) _ (hll ▸ lv_entry av hlen)
section RETS
variable {p : Program} {l : Launch} {e : Env} {R : Room} {s : State} {m : MethodId} {args : Array Value} {below : List Frame} {meth : Method} {c : Code} {H : Heap} {locs : List Loc} {cc : ByteArray} {nL : Nat} {ret : Option FieldType} {own : String} {Ts : List Cond} {A : Nat → Prop} {D : va_G} {T : TyL} {W1 : va_W} {pc : Nat} {ls : Array Slot}
theorem ret_I {r : Int32} {ty : FieldType} (C0 : Cx p s m args meth c cc nL (some ty) own Ts A D T) (hn : narrow ty (.int r) = .int r) (hP : va_P D vwCl W1 H) (hD : va_D A W1) (hS : va_S A s.heap H locs) (hdg : decode cc pc = .ok (.ireturn, 1)) : W p l e R s m args below meth c H locs 0 0 (QI below args s A D T r W1) (F0 m pc ls [.int r]) := by
  obtain ⟨hx, hb, hr, hml, hown, hts, hlocks, hN, hK, hA⟩ := C0
  exact W.zret (v := r) hx hb hr hn (fun t ht hW => ⟨⟨r, (), rfl, rfl, by rw [ht]; exact hP, va_K.moved hW.alike hK, hD⟩, hS.F ht⟩) hS.2.2 hdg
theorem ret_L {r : Int64} (C0 : Cx p s m args meth c cc nL (some .long) own Ts A D T) (hP : va_P D vwCl W1 H) (hD : va_D A W1) (hS : va_S A s.heap H locs) (hdg : decode cc pc = .ok (.lreturn, 1)) : W p l e R s m args below meth c H locs 0 0 (QL below args s A D T r W1) (F0 m pc ls [.long r]) := by
  obtain ⟨hx, hb, hr, hml, hown, hts, hlocks, hN, hK, hA⟩ := C0
  exact W.lret (v := r) hx hb hr (fun t ht hW => ⟨⟨r, (), rfl, rfl, by rw [ht]; exact hP, va_K.moved hW.alike hK, hD⟩, hS.F ht⟩) hS.2.2 hdg
theorem ret_V (C0 : Cx p s m args meth c cc nL none own Ts A D T) (hP : va_P D vwCl W1 H) (hD : va_D A W1) (hS : va_S A s.heap H locs) (hdg : decode cc pc = .ok (.return_, 1)) : W p l e R s m args below meth c H locs 0 0 (QV below args s A D T W1) (F0 m pc ls []) := by
  obtain ⟨hx, hb, hr, hml, hown, hts, hlocks, hN, hK, hA⟩ := C0
  exact W.vret hx hb hr (fun t ht hW => ⟨⟨(), rfl, trivial, by rw [ht]; exact hP, va_K.moved hW.alike hK, hD⟩, hS.F ht⟩) hS.2.2 hdg
end RETS
section CALLS
variable {p : Program} {l : Launch} {e : Env} {R : Room} {s : State} {m : MethodId} {args : Array Value} {below : List Frame} {meth : Method} {c : Code} {H : Heap} {locs : List Loc} {cc : ByteArray} {nL : Nat} {ret : Option FieldType} {own : String} {Ts : List Cond} {A : Nat → Prop} {D : va_G} {T : TyL} {W0 W1 : va_W} {pc : Nat} {ls : Array Slot} {Q : State → Prop} {rest st0 : List Value} {y : MethodName} {bytes : ByteArray} {maxL n index : Nat} {rt : Option FieldType} {ws : List Cond} {rmc : Room} {As : List Value} {b : Nat} {C host : String}
theorem pre_S (C0 : Cx p s m args meth c cc nL ret own Ts A D T) (hP : va_P D vwCl W0 H) (hD : va_D A W0) {av : List Value} : PreS s H (PcW D T W0 av H.size) av := by
  obtain ⟨hx, hb, hr, hml, hown, hts, hlocks, hN, hK, hA⟩ := C0
  exact ⟨PcW.blind, fun U hU hW => ⟨rfl, by rw [hU], by rw [hU]; exact hP, va_K.moved hW.alike hK, hD.weaken (fun _ _ _ _ => trivial), NW.warm hW hN⟩⟩
theorem run_V {Qc : Array Value → State → Outcome → State → Prop} {free : Addr → Prop} (C0 : Cx p s m args meth c cc nL ret own Ts A D T) (hM : Met l y ws rmc (PcW D T W0 (.ref b :: As) H.size) Qc 0 0 free) (cw : CallW R s args own C index y bytes maxL rt ws rmc 0 0 n) (hP : va_P D vwCl W0 H) (hD : va_D A W0) {ci q0 : Nat} {tq : u_T} {nq : Nat} {fs : List Value} (hc : vwCl[ci]? = some (C, tq, nq)) (he : W0[q0]? = some (b, .inr (ci, fs)))
    (hn : As.length = n) (hl : ls.size = nL) (hst : st0 = As.reverse ++ .ref b :: rest) (hW : (rest.map fun v => v.category).sum ≤ 8) (hdg : decode cc pc = .ok (.invokevirtual index, 3)) :
    va_Run p l e R s m args below meth c H locs 0 0 0 0 (F0 m pc ls st0) rest (Qc (Value.ref b :: As).toArray) free := by
  have C1 := C0
  obtain ⟨hx, hb, hr, hml, hown, hts, hlocks, hN, hK, hA⟩ := C0
  have h1 := pre_S C1 hP hD (av := .ref b :: As)
  exact va_runV (As := As) (rest := rest) ⟨hx, hb, hml, hown, hts⟩ hM cw ⟨h1.1, va_recv hK hP hc he, h1.2⟩ rfl hn hl hst (lv_room hW) hdg ⟨Nat.zero_le _, Nat.zero_le _⟩
theorem run_S {Qc : Array Value → State → Outcome → State → Prop} {free : Addr → Prop} (C0 : Cx p s m args meth c cc nL ret own Ts A D T) (hM : Met l y ws rmc (PcW D T W0 As H.size) Qc 0 0 free) (cw : CallB R s args own index y bytes maxL rt ws rmc 0 0 n ∧ (Cond.static y).before args s = true) (hP : va_P D vwCl W0 H) (hD : va_D A W0)
    (hn : As.length = n) (hl : ls.size = nL) (hst : st0 = As.reverse ++ rest) (hW : (rest.map fun v => v.category).sum ≤ 8) (hdg : decode cc pc = .ok (.invokestatic index, 3)) :
    va_Run p l e R s m args below meth c H locs 0 0 0 0 (F0 m pc ls st0) rest (Qc As.toArray) free := by
  have C1 := C0
  obtain ⟨hx, hb, hr, hml, hown, hts, hlocks, hN, hK, hA⟩ := C0
  exact va_runS (As := As) (rest := rest) ⟨hx, hb, hml, hown, hts⟩ hM cw (pre_S C1 hP hD) rfl hn hl hst (lv_room hW) hdg ⟨Nat.zero_le _, Nat.zero_le _⟩
theorem run_SN {Qc : Array Value → State → Outcome → State → Prop} {free : Addr → Prop} (C0 : Cx p s m args meth c cc nL ret own Ts A D T) (hM : Met l y ws rmc (PcW D T W0 As H.size) Qc 0 0 free) (cw : va_CN R s args own index y host bytes maxL rt ws rmc 0 0 n ∧ (Cond.static y).before args s = true ∧ True) (hP : va_P D vwCl W0 H) (hD : va_D A W0)
    (hn : As.length = n) (hl : ls.size = nL) (hst : st0 = As.reverse ++ rest) (hW : (rest.map fun v => v.category).sum ≤ 8) (hdg : decode cc pc = .ok (.invokestatic index, 3)) :
    va_Run p l e R s m args below meth c H locs 0 0 0 0 (F0 m pc ls st0) rest (Qc As.toArray) free := by
  have C1 := C0
  obtain ⟨hx, hb, hr, hml, hown, hts, hlocks, hN, hK, hA⟩ := C0
  exact va_runSN (As := As) (rest := rest) ⟨hx, hb, hml, hown, hts⟩ hM cw (pre_S C1 hP hD) rfl hn hl hst (lv_room hW) hdg ⟨Nat.zero_le _, Nat.zero_le _⟩
theorem call_I {a : Array Value} {r : Int32} (C0 : Cx p s m args meth c cc nL ret own Ts A D T) (hr : va_Run p l e R s m args below meth c H locs 0 0 0 0 (F0 m pc ls st0) rest (va_Qi (fun r' (_ : Unit) => r' = r) (Bw D T (va_A W0 H.size) W1) (va_A W0 H.size) a) (va_A W0 H.size)) (hD : va_D A W0) (hS : va_S A s.heap H locs)
    (kk : ∀ (H1 : Heap) (locs1 : List Loc), va_P D vwCl W1 H1 → va_D A W1 → va_S A s.heap H1 locs1 → W p l e R s m args below meth c H1 locs1 0 0 Q (F0 m (pc + 3) ls (.int r :: rest))) : W p l e R s m args below meth c H locs 0 0 Q (F0 m pc ls st0) := by
  obtain ⟨hx, hb, hrr, hml, hown, hts, hlocks, hN, hK, hA⟩ := C0
  have hF := va_freeAll hD hS hA
  refine va_calli hr hS (fun q _ h => hF q h) hF (fun r1 u t H1 locs1 ht hvm hw hB hz1 hk1 hS1 => ?_)
  obtain ⟨hP1, hK1, hD1⟩ := hB
  subst hw
  rw [ht] at hP1
  exact kk H1 locs1 hP1 (hD1.weaken (fun k q _ h => hF q.1 h)) hS1
theorem call_L {a : Array Value} {r : Int64} (C0 : Cx p s m args meth c cc nL ret own Ts A D T) (hr : va_Run p l e R s m args below meth c H locs 0 0 0 0 (F0 m pc ls st0) rest (va_Ql (fun r' (_ : Unit) => r' = r) (Bw D T (va_A W0 H.size) W1) (va_A W0 H.size) a) (va_A W0 H.size)) (hD : va_D A W0) (hS : va_S A s.heap H locs)
    (kk : ∀ (H1 : Heap) (locs1 : List Loc), va_P D vwCl W1 H1 → va_D A W1 → va_S A s.heap H1 locs1 → W p l e R s m args below meth c H1 locs1 0 0 Q (F0 m (pc + 3) ls (.long r :: rest))) : W p l e R s m args below meth c H locs 0 0 Q (F0 m pc ls st0) := by
  obtain ⟨hx, hb, hrr, hml, hown, hts, hlocks, hN, hK, hA⟩ := C0
  have hF := va_freeAll hD hS hA
  refine va_calll hr hS (fun q _ h => hF q h) hF (fun r1 u t H1 locs1 ht hvm hw hB hz1 hk1 hS1 => ?_)
  obtain ⟨hP1, hK1, hD1⟩ := hB
  subst hw
  rw [ht] at hP1
  exact kk H1 locs1 hP1 (hD1.weaken (fun k q _ h => hF q.1 h)) hS1
theorem call_V {a : Array Value} (C0 : Cx p s m args meth c cc nL ret own Ts A D T) (hr : va_Run p l e R s m args below meth c H locs 0 0 0 0 (F0 m pc ls st0) rest (va_Qv (fun (_ : Unit) => True) (Bw D T (va_A W0 H.size) W1) (va_A W0 H.size) a) (va_A W0 H.size)) (hD : va_D A W0) (hS : va_S A s.heap H locs)
    (kk : ∀ (H1 : Heap) (locs1 : List Loc), va_P D vwCl W1 H1 → va_D A W1 → va_S A s.heap H1 locs1 → W p l e R s m args below meth c H1 locs1 0 0 Q (F0 m (pc + 3) ls rest)) : W p l e R s m args below meth c H locs 0 0 Q (F0 m pc ls st0) := by
  obtain ⟨hx, hb, hrr, hml, hown, hts, hlocks, hN, hK, hA⟩ := C0
  have hF := va_freeAll hD hS hA
  refine va_callv hr hS (fun q _ h => hF q h) hF (fun u t H1 locs1 ht hvm hw hB hz1 hk1 hS1 => ?_)
  obtain ⟨hP1, hK1, hD1⟩ := hB
  rw [ht] at hP1
  exact kk H1 locs1 hP1 (hD1.weaken (fun k q _ h => hF q.1 h)) hS1
end CALLS
/-! what a mirror says, read step by step -/
theorem mi_p {α : Type} {c : Prop} [Decidable c] {a b : Option α} {r : α} (hc : c) (h : (if c then a else b) = some r) : a = some r := by rw [if_pos hc] at h; exact h
theorem mi_n {α : Type} {c : Prop} [Decidable c] {a b : Option α} {r : α} (hc : ¬ c) (h : (if c then a else b) = some r) : b = some r := by rw [if_neg hc] at h; exact h
theorem mi_g {α : Type} {c : Prop} [Decidable c] {b : Option α} {r : α} (h : (if c then none else b) = some r) : ¬ c ∧ b = some r := by
  by_cases hc : c
  · rw [if_pos hc] at h; cases h
  · rw [if_neg hc] at h; exact ⟨hc, h⟩
theorem mi_b {α β : Type} {x : Option α} {f : α → Option β} {r : β} (h : x.bind f = some r) : ∃ u, x = some u ∧ f u = some r := by
  cases x with
  | none => cases h
  | some u => exact ⟨u, rfl, h⟩
theorem mi_0 {α : Type} {P : Prop} {r : α} (h : (none : Option α) = some r) : P := by cases h
/-- where a tableswitch goes -/
def swt (dflt lo hi : Int) (offs : Array Int) (v : Int) : Int := if v < lo ∨ hi < v then dflt else (offs[(v - lo).toNat]?).getD dflt
theorem sw_tab {p : Program} {l : Launch} {e : Env} {R : Room} {s : State} {m : MethodId} {args : Array Value} {below : List Frame} {meth : Method} {c : Code} {H : Heap} {locs : List Loc} {cells slots : Nat} {Q : State → Prop} {cc : ByteArray} {pc : Nat} {ls : Array Slot} {rest : List Value} (hexec : p.tables.exec = Jvm.exec) (hb : c.code = cc) {dflt lo hi : Int} {offs : Array Int} {len : Nat} {x : Int32} {tgt : Nat} (hdg : decode cc pc = .ok (.tableswitch dflt lo hi offs, len)) (hsz : (offs.size : Int) = hi - lo + 1) (ht : (pc : Int) + swt dflt lo hi offs x.toInt = (tgt : Int))
    (k : W p l e R s m args below meth c H locs cells slots Q (F0 m tgt ls rest)) : W p l e R s m args below meth c H locs cells slots Q (F0 m pc ls (.int x :: rest)) := by
  by_cases h : x.toInt < lo ∨ hi < x.toInt
  · refine lv_tableOut hexec hb hdg h ?_ k
    unfold swt at ht
    rw [if_pos h] at ht
    exact ht
  · have h1 : ¬ x.toInt < lo := fun q => h (Or.inl q)
    have h2 : ¬ hi < x.toInt := fun q => h (Or.inr q)
    unfold swt at ht
    rw [if_neg h] at ht
    have hlt : (x.toInt - lo).toNat < offs.size := by omega
    refine lv_tableIn (off := offs[(x.toInt - lo).toNat]) hexec hb hdg h1 h2 (Array.getElem?_eq_getElem hlt) ?_ k
    rw [Array.getElem?_eq_getElem hlt] at ht
    exact ht
theorem narrow_z {v : Int32} (h : v = 0 ∨ v = 1) : narrow .boolean (.int v) = .int v := by rcases h with rfl | rfl <;> rfl
theorem fits_z {v : Int32} (h : v = 0 ∨ v = 1) : fits .boolean (.int v) = true := by rcases h with rfl | rfl <;> rfl
def FU : Nat := 1000
