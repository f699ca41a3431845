/-! ### SumsOverModel.runs(II)V -/
set_option maxRecDepth 20000 in
theorem hwX8_runs_RX8 : ∀ w ∈ u_ws RX8 TX8 26, w ∈ wsX8_runs := by decide +kernel
theorem mwX8_runs_0 : (.fieldLink RX8 41 "SumsOverModel" "values" "[J" : Cond) ∈ wsX8_runs := by decide +kernel
theorem mwX8_runs_1 : (.fieldLink RX8 75 "SumsOverModel" "steps" "I" : Cond) ∈ wsX8_runs := by decide +kernel
theorem mwX8_runs_2 : (.fieldLink RX8 136 "SumsOverModel" "firstOver" "I" : Cond) ∈ wsX8_runs := by decide +kernel
theorem mwX8_runs_3 : (.fieldLink RX8 45 "SumsOverModel" "isOver" "[Z" : Cond) ∈ wsX8_runs := by decide +kernel
theorem mwX8_runs_4 : (.fieldLink RX8 48 "SumsOverModel" "isTurned" "[Z" : Cond) ∈ wsX8_runs := by decide +kernel
theorem mwX8_runs_5 : (.fieldLink RX8 110 "SumsOverModel" "lineMany" "I" : Cond) ∈ wsX8_runs := by decide +kernel
theorem mwX8_runs_6 : (.fieldLink RX8 38 "SumsOverModel" "line" "[I" : Cond) ∈ wsX8_runs := by decide +kernel
theorem mwX8_runs_7 : (.fieldLink RX8 23 "SumsOverModel" "kind" "[I" : Cond) ∈ wsX8_runs := by decide +kernel
theorem mwX8_runs_8 : (.fieldLink RX8 29 "SumsOverModel" "a" "[I" : Cond) ∈ wsX8_runs := by decide +kernel
theorem mwX8_runs_9 : (.fieldLink RX8 32 "SumsOverModel" "b" "[I" : Cond) ∈ wsX8_runs := by decide +kernel
theorem mwX8_runs_10 : (.fieldLink RX8 26 "SumsOverModel" "target" "[I" : Cond) ∈ wsX8_runs := by decide +kernel
def rmX8_runs : Room := { frames := 3, cells := 0, slots := 0, locals := 73 }
def iX8_runs_L214 (p : Program) (l : Launch) (e : Env) (s : State) (m : MethodId) (args : Array Value) (below : List Frame) (meth : Method) (c : Code) (A : Nat → Prop) (dC : Nat → ClassId) (dI : Nat → Nat → Nat) (q : Nat → Nat) (cI cJ cZ : ClassId) (zn : Int32) (zm : Int32) (zj : Int32) (zr : Int32) (zw : Nat → Int32) (zs : Nat → Int32) (zfr : Nat → Int32) (zto : Nat → Int32) (zk : Nat → Int32) (zt : Nat → Int32) (za : Nat → Int32) (zb : Nat → Int32) (zq : Nat → Int32) (zl : Nat → Int32) (zov : Nat → Int32) (ztu : Nat → Int32) (zsh : Nat → Int32) (zle : Nat → Int64) (zmo : Nat → Int64) (zc : Nat → Int32) (zlo : Nat → Int64) (zhi : Nat → Int64)  (RES : (Int32) × (Nat → Int64) × (Nat → Int32) × (Nat → Int32)) (k : (Int32) → (Nat → Int64) → (Nat → Int32) → (Nat → Int32) → (Int32) → (Int32) → (Int64) → Option ((Int32) × (Nat → Int64) × (Nat → Int32) × (Nat → Int32))) : Prop := ∀ (zf : Int32) (zv : Nat → Int64) (zo : Nat → Int32) (zu : Nat → Int32) (x3 : Int32) (x4 : Int32) (x5 : Int64) (H : Heap) (locs : List Loc) (ls : Array Slot), va_P (dC, dI) vwCl (wM q cI cJ cZ zn zm zj zf zr zw zs zfr zto zk zt za zb zq zl zv zo zu zov ztu zsh zle zmo zc zlo zhi) H → va_D A (wM q cI cJ cZ zn zm zj zf zr zw zs zfr zto zk zt za zb zq zl zv zo zu zov ztu zsh zle zmo zc zlo zhi) → va_S A s.heap H locs → lv_has ls 7 [(0, .ref (q 0)), (3, .int x3), (4, .int x4), (5, .long x5)] → k zf zv zo zu x3 x4 x5 = some RES → W p l e rmX8_runs s m args below meth c H locs 0 0 (QV below args s A (dC, dI) (ty3 cI cJ cZ) (wM q cI cJ cZ zn zm zj RES.1 zr zw zs zfr zto zk zt za zb zq zl RES.2.1 RES.2.2.1 RES.2.2.2 zov ztu zsh zle zmo zc zlo zhi)) (F0 m 214 ls [])
def iX8_runs_L176 (p : Program) (l : Launch) (e : Env) (s : State) (m : MethodId) (args : Array Value) (below : List Frame) (meth : Method) (c : Code) (A : Nat → Prop) (dC : Nat → ClassId) (dI : Nat → Nat → Nat) (q : Nat → Nat) (cI cJ cZ : ClassId) (zn : Int32) (zm : Int32) (zj : Int32) (zr : Int32) (zw : Nat → Int32) (zs : Nat → Int32) (zfr : Nat → Int32) (zto : Nat → Int32) (zk : Nat → Int32) (zt : Nat → Int32) (za : Nat → Int32) (zb : Nat → Int32) (zq : Nat → Int32) (zl : Nat → Int32) (zov : Nat → Int32) (ztu : Nat → Int32) (zsh : Nat → Int32) (zle : Nat → Int64) (zmo : Nat → Int64) (zc : Nat → Int32) (zlo : Nat → Int64) (zhi : Nat → Int64)  (RES : (Int32) × (Nat → Int64) × (Nat → Int32) × (Nat → Int32)) (k : (Int32) → (Nat → Int64) → (Nat → Int32) → (Nat → Int32) → (Int32) → (Int32) → (Int64) → Option ((Int32) × (Nat → Int64) × (Nat → Int32) × (Nat → Int32))) : Prop := ∀ (zf : Int32) (zv : Nat → Int64) (zo : Nat → Int32) (zu : Nat → Int32) (x3 : Int32) (x4 : Int32) (x5 : Int64) (H : Heap) (locs : List Loc) (ls : Array Slot), va_P (dC, dI) vwCl (wM q cI cJ cZ zn zm zj zf zr zw zs zfr zto zk zt za zb zq zl zv zo zu zov ztu zsh zle zmo zc zlo zhi) H → va_D A (wM q cI cJ cZ zn zm zj zf zr zw zs zfr zto zk zt za zb zq zl zv zo zu zov ztu zsh zle zmo zc zlo zhi) → va_S A s.heap H locs → lv_has ls 7 [(0, .ref (q 0)), (3, .int x3), (4, .int x4), (5, .long x5)] → k zf zv zo zu x3 x4 x5 = some RES → W p l e rmX8_runs s m args below meth c H locs 0 0 (QV below args s A (dC, dI) (ty3 cI cJ cZ) (wM q cI cJ cZ zn zm zj RES.1 zr zw zs zfr zto zk zt za zb zq zl RES.2.1 RES.2.2.1 RES.2.2.2 zov ztu zsh zle zmo zc zlo zhi)) (F0 m 176 ls [])
def iX8_runs_L132 (p : Program) (l : Launch) (e : Env) (s : State) (m : MethodId) (args : Array Value) (below : List Frame) (meth : Method) (c : Code) (A : Nat → Prop) (dC : Nat → ClassId) (dI : Nat → Nat → Nat) (q : Nat → Nat) (cI cJ cZ : ClassId) (zn : Int32) (zm : Int32) (zj : Int32) (zr : Int32) (zw : Nat → Int32) (zs : Nat → Int32) (zfr : Nat → Int32) (zto : Nat → Int32) (zk : Nat → Int32) (zt : Nat → Int32) (za : Nat → Int32) (zb : Nat → Int32) (zq : Nat → Int32) (zl : Nat → Int32) (zov : Nat → Int32) (ztu : Nat → Int32) (zsh : Nat → Int32) (zle : Nat → Int64) (zmo : Nat → Int64) (zc : Nat → Int32) (zlo : Nat → Int64) (zhi : Nat → Int64)  (RES : (Int32) × (Nat → Int64) × (Nat → Int32) × (Nat → Int32)) (k : (Int32) → (Nat → Int64) → (Nat → Int32) → (Nat → Int32) → (Int32) → (Int32) → (Int64) → (Int32) → Option ((Int32) × (Nat → Int64) × (Nat → Int32) × (Nat → Int32))) : Prop := ∀ (zf : Int32) (zv : Nat → Int64) (zo : Nat → Int32) (zu : Nat → Int32) (x3 : Int32) (x4 : Int32) (x5 : Int64) (t0 : Int32) (H : Heap) (locs : List Loc) (ls : Array Slot), va_P (dC, dI) vwCl (wM q cI cJ cZ zn zm zj zf zr zw zs zfr zto zk zt za zb zq zl zv zo zu zov ztu zsh zle zmo zc zlo zhi) H → va_D A (wM q cI cJ cZ zn zm zj zf zr zw zs zfr zto zk zt za zb zq zl zv zo zu zov ztu zsh zle zmo zc zlo zhi) → va_S A s.heap H locs → lv_has ls 7 [(0, .ref (q 0)), (3, .int x3), (4, .int x4), (5, .long x5)] → k zf zv zo zu x3 x4 x5 t0 = some RES → W p l e rmX8_runs s m args below meth c H locs 0 0 (QV below args s A (dC, dI) (ty3 cI cJ cZ) (wM q cI cJ cZ zn zm zj RES.1 zr zw zs zfr zto zk zt za zb zq zl RES.2.1 RES.2.2.1 RES.2.2.2 zov ztu zsh zle zmo zc zlo zhi)) (F0 m 132 ls [.int t0])
def iX8_runs_L84 (p : Program) (l : Launch) (e : Env) (s : State) (m : MethodId) (args : Array Value) (below : List Frame) (meth : Method) (c : Code) (A : Nat → Prop) (dC : Nat → ClassId) (dI : Nat → Nat → Nat) (q : Nat → Nat) (cI cJ cZ : ClassId) (zn : Int32) (zm : Int32) (zj : Int32) (zr : Int32) (zw : Nat → Int32) (zs : Nat → Int32) (zfr : Nat → Int32) (zto : Nat → Int32) (zk : Nat → Int32) (zt : Nat → Int32) (za : Nat → Int32) (zb : Nat → Int32) (zq : Nat → Int32) (zl : Nat → Int32) (zov : Nat → Int32) (ztu : Nat → Int32) (zsh : Nat → Int32) (zle : Nat → Int64) (zmo : Nat → Int64) (zc : Nat → Int32) (zlo : Nat → Int64) (zhi : Nat → Int64)  (RES : (Int32) × (Nat → Int64) × (Nat → Int32) × (Nat → Int32)) (k : (Int32) → (Nat → Int64) → (Nat → Int32) → (Nat → Int32) → (Int32) → Option ((Int32) × (Nat → Int64) × (Nat → Int32) × (Nat → Int32))) : Prop := ∀ (zf : Int32) (zv : Nat → Int64) (zo : Nat → Int32) (zu : Nat → Int32) (x3 : Int32) (H : Heap) (locs : List Loc) (ls : Array Slot), va_P (dC, dI) vwCl (wM q cI cJ cZ zn zm zj zf zr zw zs zfr zto zk zt za zb zq zl zv zo zu zov ztu zsh zle zmo zc zlo zhi) H → va_D A (wM q cI cJ cZ zn zm zj zf zr zw zs zfr zto zk zt za zb zq zl zv zo zu zov ztu zsh zle zmo zc zlo zhi) → va_S A s.heap H locs → lv_has ls 7 [(0, .ref (q 0)), (3, .int x3)] → k zf zv zo zu x3 = some RES → W p l e rmX8_runs s m args below meth c H locs 0 0 (QV below args s A (dC, dI) (ty3 cI cJ cZ) (wM q cI cJ cZ zn zm zj RES.1 zr zw zs zfr zto zk zt za zb zq zl RES.2.1 RES.2.2.1 RES.2.2.2 zov ztu zsh zle zmo zc zlo zhi)) (F0 m 84 ls [])
def iX8_runs_L23 (p : Program) (l : Launch) (e : Env) (s : State) (m : MethodId) (args : Array Value) (below : List Frame) (meth : Method) (c : Code) (A : Nat → Prop) (dC : Nat → ClassId) (dI : Nat → Nat → Nat) (q : Nat → Nat) (cI cJ cZ : ClassId) (zn : Int32) (zm : Int32) (zj : Int32) (zr : Int32) (zw : Nat → Int32) (zs : Nat → Int32) (zfr : Nat → Int32) (zto : Nat → Int32) (zk : Nat → Int32) (zt : Nat → Int32) (za : Nat → Int32) (zb : Nat → Int32) (zq : Nat → Int32) (zl : Nat → Int32) (zov : Nat → Int32) (ztu : Nat → Int32) (zsh : Nat → Int32) (zle : Nat → Int64) (zmo : Nat → Int64) (zc : Nat → Int32) (zlo : Nat → Int64) (zhi : Nat → Int64)  (RES : (Int32) × (Nat → Int64) × (Nat → Int32) × (Nat → Int32)) (k : (Int32) → (Nat → Int64) → (Nat → Int32) → (Nat → Int32) → (Int32) → (Int32) → (Int32) → Option ((Int32) × (Nat → Int64) × (Nat → Int32) × (Nat → Int32))) : Prop := ∀ (zf : Int32) (zv : Nat → Int64) (zo : Nat → Int32) (zu : Nat → Int32) (x1 : Int32) (x2 : Int32) (x3 : Int32) (H : Heap) (locs : List Loc) (ls : Array Slot), va_P (dC, dI) vwCl (wM q cI cJ cZ zn zm zj zf zr zw zs zfr zto zk zt za zb zq zl zv zo zu zov ztu zsh zle zmo zc zlo zhi) H → va_D A (wM q cI cJ cZ zn zm zj zf zr zw zs zfr zto zk zt za zb zq zl zv zo zu zov ztu zsh zle zmo zc zlo zhi) → va_S A s.heap H locs → lv_has ls 7 [(0, .ref (q 0)), (1, .int x1), (2, .int x2), (3, .int x3)] → k zf zv zo zu x1 x2 x3 = some RES → W p l e rmX8_runs s m args below meth c H locs 0 0 (QV below args s A (dC, dI) (ty3 cI cJ cZ) (wM q cI cJ cZ zn zm zj RES.1 zr zw zs zfr zto zk zt za zb zq zl RES.2.1 RES.2.2.1 RES.2.2.2 zov ztu zsh zle zmo zc zlo zhi)) (F0 m 23 ls [])
def iX8_runs_L2 (p : Program) (l : Launch) (e : Env) (s : State) (m : MethodId) (args : Array Value) (below : List Frame) (meth : Method) (c : Code) (A : Nat → Prop) (dC : Nat → ClassId) (dI : Nat → Nat → Nat) (q : Nat → Nat) (cI cJ cZ : ClassId) (zn : Int32) (zm : Int32) (zj : Int32) (zr : Int32) (zw : Nat → Int32) (zs : Nat → Int32) (zfr : Nat → Int32) (zto : Nat → Int32) (zk : Nat → Int32) (zt : Nat → Int32) (za : Nat → Int32) (zb : Nat → Int32) (zq : Nat → Int32) (zl : Nat → Int32) (zov : Nat → Int32) (ztu : Nat → Int32) (zsh : Nat → Int32) (zle : Nat → Int64) (zmo : Nat → Int64) (zc : Nat → Int32) (zlo : Nat → Int64) (zhi : Nat → Int64)  (RES : (Int32) × (Nat → Int64) × (Nat → Int32) × (Nat → Int32)) (k : (Int32) → (Nat → Int64) → (Nat → Int32) → (Nat → Int32) → (Int32) → (Int32) → (Int32) → Option ((Int32) × (Nat → Int64) × (Nat → Int32) × (Nat → Int32))) : Prop := ∀ (zf : Int32) (zv : Nat → Int64) (zo : Nat → Int32) (zu : Nat → Int32) (x1 : Int32) (x2 : Int32) (x3 : Int32) (H : Heap) (locs : List Loc) (ls : Array Slot), va_P (dC, dI) vwCl (wM q cI cJ cZ zn zm zj zf zr zw zs zfr zto zk zt za zb zq zl zv zo zu zov ztu zsh zle zmo zc zlo zhi) H → va_D A (wM q cI cJ cZ zn zm zj zf zr zw zs zfr zto zk zt za zb zq zl zv zo zu zov ztu zsh zle zmo zc zlo zhi) → va_S A s.heap H locs → lv_has ls 7 [(0, .ref (q 0)), (1, .int x1), (2, .int x2), (3, .int x3)] → k zf zv zo zu x1 x2 x3 = some RES → W p l e rmX8_runs s m args below meth c H locs 0 0 (QV below args s A (dC, dI) (ty3 cI cJ cZ) (wM q cI cJ cZ zn zm zj RES.1 zr zw zs zfr zto zk zt za zb zq zl RES.2.1 RES.2.2.1 RES.2.2.2 zov ztu zsh zle zmo zc zlo zhi)) (F0 m 2 ls [])
set_option maxHeartbeats 4000000 in
set_option maxRecDepth 100000 in
theorem zX8_runs_L214 {p : Program} {l : Launch} {e : Env} {s : State} {m : MethodId} {args : Array Value} {below : List Frame} {meth : Method} {c : Code} {A : Nat → Prop} {dC : Nat → ClassId} {dI : Nat → Nat → Nat} {q : Nat → Nat} {cI cJ cZ : ClassId} {zn : Int32} {zm : Int32} {zj : Int32} {zr : Int32} {zw : Nat → Int32} {zs : Nat → Int32} {zfr : Nat → Int32} {zto : Nat → Int32} {zk : Nat → Int32} {zt : Nat → Int32} {za : Nat → Int32} {zb : Nat → Int32} {zq : Nat → Int32} {zl : Nat → Int32} {zov : Nat → Int32} {ztu : Nat → Int32} {zsh : Nat → Int32} {zle : Nat → Int64} {zmo : Nat → Int64} {zc : Nat → Int32} {zlo : Nat → Int64} {zhi : Nat → Int64}  (C0 : Cx p s m args meth c cX8_runs 7 none RX8 wsX8_runs A (dC, dI) (ty3 cI cJ cZ)) {RES : (Int32) × (Nat → Int64) × (Nat → Int32) × (Nat → Int32)} {k84 : (Int32) → (Nat → Int64) → (Nat → Int32) → (Nat → Int32) → (Int32) → Option ((Int32) × (Nat → Int64) × (Nat → Int32) × (Nat → Int32))} (hk84 : iX8_runs_L84 p l e s m args below meth c A dC dI q cI cJ cZ zn zm zj zr zw zs zfr zto zk zt za zb zq zl zov ztu zsh zle zmo zc zlo zhi RES k84) : iX8_runs_L214 p l e s m args below meth c A dC dI q cI cJ cZ zn zm zj zr zw zs zfr zto zk zt za zb zq zl zov ztu zsh zle zmo zc zlo zhi RES (mX8_runs_L214 zn zm zj zw zs zk zt za zb zl k84) := by
  have C1 := C0
  obtain ⟨hx, hb, hr, hml, hown, hts, hlocks, hN, hK, hA⟩ := C1
  intro zf zv zo zu x3 x4 x5 H locs ls hP hD hS hl hres
  unfold mX8_runs_L214 at hres
  refine lv_aload_n hx hb dX8_runs_214 rfl (lv_at hl 0 rfl) ?_
  refine va_get (D := (dC, dI)) (ci := 8) (v := .ref (q 11)) (C := RX8) (T := TX8) (N := 26) hx hb hts hwX8_runs_RX8 hown hK hP 0 rfl rfl 13 (by decide) (hts _ mwX8_runs_0) (fun _ h9 => h9) rfl dX8_runs_215 ?_
  refine lv_aload_n hx hb dX8_runs_218 rfl (lv_at hl 0 rfl) ?_
  refine va_get (D := (dC, dI)) (ci := 8) (v := .ref (q 6)) (C := RX8) (T := TX8) (N := 26) hx hb hts hwX8_runs_RX8 hown hK hP 0 rfl rfl 5 (by decide) (hts _ mwX8_runs_10) (fun _ h9 => h9) rfl dX8_runs_219 ?_
  refine lv_iload hx hb dX8_runs_222 (lv_at hl 2 rfl) ?_
  obtain ⟨g_23, hres⟩ := mi_g hres
  refine va_iald (D := (dC, dI)) (cl := vwCl) hx hb hK hP 6 0 rfl rfl g_23 dX8_runs_224 ?_
  refine lv_aload_n hx hb dX8_runs_225 rfl (lv_at hl 0 rfl) ?_
  refine lv_aload_n hx hb dX8_runs_226 rfl (lv_at hl 0 rfl) ?_
  refine va_get (D := (dC, dI)) (ci := 8) (v := .ref (q 6)) (C := RX8) (T := TX8) (N := 26) hx hb hts hwX8_runs_RX8 hown hK hP 0 rfl rfl 5 (by decide) (hts _ mwX8_runs_10) (fun _ h9 => h9) rfl dX8_runs_227 ?_
  refine lv_iload hx hb dX8_runs_230 (lv_at hl 2 rfl) ?_
  refine va_iald (D := (dC, dI)) (cl := vwCl) hx hb hK hP 6 0 rfl rfl g_23 dX8_runs_232 ?_
  refine lv_lload hx hb dX8_runs_233 (lv_at hl 3 rfl) ?_
  obtain ⟨u24, hu24, hres⟩ := mi_b hres
  refine call_L C0 (run_V C0 (rest := [.int (zt (Int32.toNatClampNeg x4)), .ref (q 11)]) (kX8_put l dC dI q cI cJ cZ zn zm zj zf zr zw zs zfr zto zk zt za zb zq zl zv zo zu zov ztu zsh zle zmo zc zlo zhi  (zt (Int32.toNatClampNeg x4)) x5 u24 hu24 _) (cwV 2 hts gX8_runs_X8_put rfl rfl rfl (by decide +kernel) ⟨by decide, by decide⟩) hP hD (ci := 8) (q0 := 0) rfl rfl rfl hl.1 rfl (Nat.le_of_ble_eq_true rfl) dX8_runs_235) hD hS (fun H locs hP hD hS => ?_)
  obtain ⟨g_25, hres⟩ := mi_g hres
  refine va_last (D := (dC, dI)) (cl := vwCl) hx hb hK hP hD hS 11 1 rfl rfl g_25 dX8_runs_238 (fun H locs hP hD hS => ?_)
  have hP : va_P (dC, dI) vwCl (wM q cI cJ cZ zn zm zj zf zr zw zs zfr zto zk zt za zb zq zl (vp_updL zv (Int32.toNatClampNeg (zt (Int32.toNatClampNeg x4))) u24) zo zu zov ztu zsh zle zmo zc zlo zhi) H := hP
  have hD : va_D A (wM q cI cJ cZ zn zm zj zf zr zw zs zfr zto zk zt za zb zq zl (vp_updL zv (Int32.toNatClampNeg (zt (Int32.toNatClampNeg x4))) u24) zo zu zov ztu zsh zle zmo zc zlo zhi) := hD
  refine lv_iinc (v := x3 + (1 : Int32)) (lv' := [(3, .int (x3 + (1 : Int32))), (0, .ref (q 0)), (4, .int x4), (5, .long x5)]) hx hb dX8_runs_239 hl (k := 1) rfl rfl (by decide) rfl (fun ls hl => ?_)
  refine lv_goto (tgt := 84) hx hb dX8_runs_242 (by decide) ?_
  exact hk84 zf (vp_updL zv (Int32.toNatClampNeg (zt (Int32.toNatClampNeg x4))) u24) zo zu (x3 + (1 : Int32)) _ _ ls hP hD hS (lv_sub hl [1, 0] rfl) hres
set_option maxHeartbeats 4000000 in
set_option maxRecDepth 100000 in
theorem zX8_runs_L176 {p : Program} {l : Launch} {e : Env} {s : State} {m : MethodId} {args : Array Value} {below : List Frame} {meth : Method} {c : Code} {A : Nat → Prop} {dC : Nat → ClassId} {dI : Nat → Nat → Nat} {q : Nat → Nat} {cI cJ cZ : ClassId} {zn : Int32} {zm : Int32} {zj : Int32} {zr : Int32} {zw : Nat → Int32} {zs : Nat → Int32} {zfr : Nat → Int32} {zto : Nat → Int32} {zk : Nat → Int32} {zt : Nat → Int32} {za : Nat → Int32} {zb : Nat → Int32} {zq : Nat → Int32} {zl : Nat → Int32} {zov : Nat → Int32} {ztu : Nat → Int32} {zsh : Nat → Int32} {zle : Nat → Int64} {zmo : Nat → Int64} {zc : Nat → Int32} {zlo : Nat → Int64} {zhi : Nat → Int64}  (C0 : Cx p s m args meth c cX8_runs 7 none RX8 wsX8_runs A (dC, dI) (ty3 cI cJ cZ)) {RES : (Int32) × (Nat → Int64) × (Nat → Int32) × (Nat → Int32)} {k84 : (Int32) → (Nat → Int64) → (Nat → Int32) → (Nat → Int32) → (Int32) → Option ((Int32) × (Nat → Int64) × (Nat → Int32) × (Nat → Int32))} (hk84 : iX8_runs_L84 p l e s m args below meth c A dC dI q cI cJ cZ zn zm zj zr zw zs zfr zto zk zt za zb zq zl zov ztu zsh zle zmo zc zlo zhi RES k84) : iX8_runs_L176 p l e s m args below meth c A dC dI q cI cJ cZ zn zm zj zr zw zs zfr zto zk zt za zb zq zl zov ztu zsh zle zmo zc zlo zhi RES (mX8_runs_L176 zn zm zj zw zs zk zt za zb zl k84) := by
  have C1 := C0
  obtain ⟨hx, hb, hr, hml, hown, hts, hlocks, hN, hK, hA⟩ := C1
  intro zf zv zo zu x3 x4 x5 H locs ls hP hD hS hl hres
  unfold mX8_runs_L176 at hres
  refine lv_aload_n hx hb dX8_runs_176 rfl (lv_at hl 0 rfl) ?_
  refine lv_aload_n hx hb dX8_runs_177 rfl (lv_at hl 0 rfl) ?_
  refine va_get (D := (dC, dI)) (ci := 8) (v := .ref (q 6)) (C := RX8) (T := TX8) (N := 26) hx hb hts hwX8_runs_RX8 hown hK hP 0 rfl rfl 5 (by decide) (hts _ mwX8_runs_10) (fun _ h9 => h9) rfl dX8_runs_178 ?_
  refine lv_iload hx hb dX8_runs_181 (lv_at hl 2 rfl) ?_
  obtain ⟨g_19, hres⟩ := mi_g hres
  refine va_iald (D := (dC, dI)) (cl := vwCl) hx hb hK hP 6 0 rfl rfl g_19 dX8_runs_183 ?_
  refine lv_lload hx hb dX8_runs_184 (lv_at hl 3 rfl) ?_
  obtain ⟨u20, hu20, hres⟩ := mi_b hres
  refine call_I C0 (run_V C0 (rest := []) (kX8_goesOver l dC dI q cI cJ cZ zn zm zj zf zr zw zs zfr zto zk zt za zb zq zl zv zo zu zov ztu zsh zle zmo zc zlo zhi  (zt (Int32.toNatClampNeg x4)) x5 u20 hu20 _) (cwV 2 hts gX8_runs_X8_goesOver rfl rfl rfl (by decide +kernel) ⟨by decide, by decide⟩) hP hD (ci := 8) (q0 := 0) rfl rfl rfl hl.1 rfl (Nat.le_of_ble_eq_true rfl) dX8_runs_186) hD hS (fun H locs hP hD hS => ?_)
  refine lv_if_eq (tgt := 214) hx hb dX8_runs_189 (by decide) (fun c_21 => ?_) (fun c_21 => ?_)
  · replace hres := mi_p c_21 hres
    exact zX8_runs_L214 C0 hk84 zf zv zo zu x3 x4 x5 _ _ ls hP hD hS (lv_sub hl [0, 1, 2, 3] rfl) hres
  · replace hres := mi_n c_21 hres
    refine lv_aload_n hx hb dX8_runs_192 rfl (lv_at hl 0 rfl) ?_
    refine va_get (D := (dC, dI)) (ci := 8) (v := .ref (q 12)) (C := RX8) (T := TX8) (N := 26) hx hb hts hwX8_runs_RX8 hown hK hP 0 rfl rfl 14 (by decide) (hts _ mwX8_runs_3) (fun _ h9 => h9) rfl dX8_runs_193 ?_
    refine lv_iload hx hb dX8_runs_196 (lv_at hl 2 rfl) ?_
    refine lv_iconst (v := (1 : Int32)) hx hb dX8_runs_198 (by decide) ?_
    refine va_zast (D := (dC, dI)) (cl := vwCl) hx hb hK hP hD hS 12 2 rfl rfl g_19 dX8_runs_199 (fun H locs hP hD hS => ?_)
    have hP : va_P (dC, dI) vwCl (wM q cI cJ cZ zn zm zj zf zr zw zs zfr zto zk zt za zb zq zl zv (upd zo (Int32.toNatClampNeg x4) (vp_nar .boolean (1 : Int32))) zu zov ztu zsh zle zmo zc zlo zhi) H := hP
    have hD : va_D A (wM q cI cJ cZ zn zm zj zf zr zw zs zfr zto zk zt za zb zq zl zv (upd zo (Int32.toNatClampNeg x4) (vp_nar .boolean (1 : Int32))) zu zov ztu zsh zle zmo zc zlo zhi) := hD
    refine lv_aload_n hx hb dX8_runs_200 rfl (lv_at hl 0 rfl) ?_
    refine va_get (D := (dC, dI)) (ci := 8) (v := .int zf) (C := RX8) (T := TX8) (N := 26) hx hb hts hwX8_runs_RX8 hown hK hP 0 rfl rfl 16 (by decide) (hts _ mwX8_runs_2) (fun _ h9 => h9) rfl dX8_runs_201 ?_
    refine lv_iconst (v := (-1 : Int32)) hx hb dX8_runs_204 (by decide) ?_
    refine lv_icmp_ne (tgt := 214) hx hb dX8_runs_205 (by decide) (fun c_22 => ?_) (fun c_22 => ?_)
    · replace hres := mi_n c_22 hres
      exact zX8_runs_L214 C0 hk84 zf zv (upd zo (Int32.toNatClampNeg x4) (vp_nar .boolean (1 : Int32))) zu x3 x4 x5 _ _ ls hP hD hS (lv_sub hl [0, 1, 2, 3] rfl) hres
    · replace hres := mi_p c_22 hres
      refine lv_aload_n hx hb dX8_runs_208 rfl (lv_at hl 0 rfl) ?_
      refine lv_iload hx hb dX8_runs_209 (lv_at hl 2 rfl) ?_
      refine va_put (D := (dC, dI)) (ci := 8) (v := .int x4) (ty := .int) (C := RX8) (T := TX8) (N := 26) hx hb hts hwX8_runs_RX8 tyX8 tyX8_ok nmX8 hown hK hP hD hS 0 rfl rfl 16 (by decide) (hts _ mwX8_runs_2) (fun _ h9 => h9) rfl (by decide +kernel) rfl rfl (Nat.le_of_ble_eq_true rfl) dX8_runs_211 (fun H locs hP hD hS => ?_)
      have hP : va_P (dC, dI) vwCl (wM q cI cJ cZ zn zm zj x4 zr zw zs zfr zto zk zt za zb zq zl zv (upd zo (Int32.toNatClampNeg x4) (vp_nar .boolean (1 : Int32))) zu zov ztu zsh zle zmo zc zlo zhi) H := hP
      have hD : va_D A (wM q cI cJ cZ zn zm zj x4 zr zw zs zfr zto zk zt za zb zq zl zv (upd zo (Int32.toNatClampNeg x4) (vp_nar .boolean (1 : Int32))) zu zov ztu zsh zle zmo zc zlo zhi) := hD
      exact zX8_runs_L214 C0 hk84 x4 zv (upd zo (Int32.toNatClampNeg x4) (vp_nar .boolean (1 : Int32))) zu x3 x4 x5 _ _ ls hP hD hS (lv_sub hl [0, 1, 2, 3] rfl) hres
set_option maxHeartbeats 4000000 in
set_option maxRecDepth 100000 in
theorem zX8_runs_L132 {p : Program} {l : Launch} {e : Env} {s : State} {m : MethodId} {args : Array Value} {below : List Frame} {meth : Method} {c : Code} {A : Nat → Prop} {dC : Nat → ClassId} {dI : Nat → Nat → Nat} {q : Nat → Nat} {cI cJ cZ : ClassId} {zn : Int32} {zm : Int32} {zj : Int32} {zr : Int32} {zw : Nat → Int32} {zs : Nat → Int32} {zfr : Nat → Int32} {zto : Nat → Int32} {zk : Nat → Int32} {zt : Nat → Int32} {za : Nat → Int32} {zb : Nat → Int32} {zq : Nat → Int32} {zl : Nat → Int32} {zov : Nat → Int32} {ztu : Nat → Int32} {zsh : Nat → Int32} {zle : Nat → Int64} {zmo : Nat → Int64} {zc : Nat → Int32} {zlo : Nat → Int64} {zhi : Nat → Int64}  (C0 : Cx p s m args meth c cX8_runs 7 none RX8 wsX8_runs A (dC, dI) (ty3 cI cJ cZ)) {RES : (Int32) × (Nat → Int64) × (Nat → Int32) × (Nat → Int32)} {k84 : (Int32) → (Nat → Int64) → (Nat → Int32) → (Nat → Int32) → (Int32) → Option ((Int32) × (Nat → Int64) × (Nat → Int32) × (Nat → Int32))} (hk84 : iX8_runs_L84 p l e s m args below meth c A dC dI q cI cJ cZ zn zm zj zr zw zs zfr zto zk zt za zb zq zl zov ztu zsh zle zmo zc zlo zhi RES k84) : iX8_runs_L132 p l e s m args below meth c A dC dI q cI cJ cZ zn zm zj zr zw zs zfr zto zk zt za zb zq zl zov ztu zsh zle zmo zc zlo zhi RES (mX8_runs_L132 zn zm zj zw zs zk zt za zb zl k84) := by
  have C1 := C0
  obtain ⟨hx, hb, hr, hml, hown, hts, hlocks, hN, hK, hA⟩ := C1
  intro zf zv zo zu x3 x4 x5 t0 H locs ls hP hD hS hl hres
  unfold mX8_runs_L132 at hres
  refine lv_aload_n hx hb dX8_runs_132 rfl (lv_at hl 0 rfl) ?_
  refine va_get (D := (dC, dI)) (ci := 8) (v := .ref (q 11)) (C := RX8) (T := TX8) (N := 26) hx hb hts hwX8_runs_RX8 hown hK hP 0 rfl rfl 13 (by decide) (hts _ mwX8_runs_0) (fun _ h9 => h9) rfl dX8_runs_133 ?_
  refine lv_aload_n hx hb dX8_runs_136 rfl (lv_at hl 0 rfl) ?_
  refine va_get (D := (dC, dI)) (ci := 8) (v := .ref (q 7)) (C := RX8) (T := TX8) (N := 26) hx hb hts hwX8_runs_RX8 hown hK hP 0 rfl rfl 6 (by decide) (hts _ mwX8_runs_8) (fun _ h9 => h9) rfl dX8_runs_137 ?_
  refine lv_iload hx hb dX8_runs_140 (lv_at hl 2 rfl) ?_
  obtain ⟨g_13, hres⟩ := mi_g hres
  refine va_iald (D := (dC, dI)) (cl := vwCl) hx hb hK hP 7 0 rfl rfl g_13 dX8_runs_142 ?_
  obtain ⟨g_14, hres⟩ := mi_g hres
  refine va_lald (D := (dC, dI)) (cl := vwCl) hx hb hK hP 11 1 rfl rfl g_14 dX8_runs_143 ?_
  refine lv_aload_n hx hb dX8_runs_144 rfl (lv_at hl 0 rfl) ?_
  refine va_get (D := (dC, dI)) (ci := 8) (v := .ref (q 11)) (C := RX8) (T := TX8) (N := 26) hx hb hts hwX8_runs_RX8 hown hK hP 0 rfl rfl 13 (by decide) (hts _ mwX8_runs_0) (fun _ h9 => h9) rfl dX8_runs_145 ?_
  refine lv_aload_n hx hb dX8_runs_148 rfl (lv_at hl 0 rfl) ?_
  refine va_get (D := (dC, dI)) (ci := 8) (v := .ref (q 8)) (C := RX8) (T := TX8) (N := 26) hx hb hts hwX8_runs_RX8 hown hK hP 0 rfl rfl 7 (by decide) (hts _ mwX8_runs_9) (fun _ h9 => h9) rfl dX8_runs_149 ?_
  refine lv_iload hx hb dX8_runs_152 (lv_at hl 2 rfl) ?_
  refine va_iald (D := (dC, dI)) (cl := vwCl) hx hb hK hP 8 0 rfl rfl g_13 dX8_runs_154 ?_
  obtain ⟨g_15, hres⟩ := mi_g hres
  refine va_lald (D := (dC, dI)) (cl := vwCl) hx hb hK hP 11 1 rfl rfl g_15 dX8_runs_155 ?_
  refine W.lcmp hx hb dX8_runs_156 ?_
  refine lv_if_ge (tgt := 164) hx hb dX8_runs_157 (by decide) (fun c_16 => ?_) (fun c_16 => ?_)
  · rw [lg_cmp_ge] at c_16
    replace hres := mi_p c_16 hres
    refine lv_iconst (v := (0 : Int32)) hx hb dX8_runs_164 (by decide) ?_
    refine lv_icmp_eq (tgt := 176) hx hb dX8_runs_165 (by decide) (fun c_17 => ?_) (fun c_17 => ?_)
    · replace hres := mi_p c_17 hres
      exact zX8_runs_L176 C0 hk84 zf zv zo zu x3 x4 x5 _ _ ls hP hD hS (lv_sub hl [0, 1, 2, 3] rfl) hres
    · replace hres := mi_n c_17 hres
      refine lv_aload_n hx hb dX8_runs_168 rfl (lv_at hl 0 rfl) ?_
      refine va_get (D := (dC, dI)) (ci := 8) (v := .ref (q 13)) (C := RX8) (T := TX8) (N := 26) hx hb hts hwX8_runs_RX8 hown hK hP 0 rfl rfl 15 (by decide) (hts _ mwX8_runs_4) (fun _ h9 => h9) rfl dX8_runs_169 ?_
      refine lv_iload hx hb dX8_runs_172 (lv_at hl 2 rfl) ?_
      refine lv_iconst (v := (1 : Int32)) hx hb dX8_runs_174 (by decide) ?_
      refine va_zast (D := (dC, dI)) (cl := vwCl) hx hb hK hP hD hS 13 2 rfl rfl g_13 dX8_runs_175 (fun H locs hP hD hS => ?_)
      have hP : va_P (dC, dI) vwCl (wM q cI cJ cZ zn zm zj zf zr zw zs zfr zto zk zt za zb zq zl zv zo (upd zu (Int32.toNatClampNeg x4) (vp_nar .boolean (1 : Int32))) zov ztu zsh zle zmo zc zlo zhi) H := hP
      have hD : va_D A (wM q cI cJ cZ zn zm zj zf zr zw zs zfr zto zk zt za zb zq zl zv zo (upd zu (Int32.toNatClampNeg x4) (vp_nar .boolean (1 : Int32))) zov ztu zsh zle zmo zc zlo zhi) := hD
      exact zX8_runs_L176 C0 hk84 zf zv zo (upd zu (Int32.toNatClampNeg x4) (vp_nar .boolean (1 : Int32))) x3 x4 x5 _ _ ls hP hD hS (lv_sub hl [0, 1, 2, 3] rfl) hres
  · rw [lg_cmp_ge] at c_16
    replace hres := mi_n c_16 hres
    refine lv_iconst (v := (1 : Int32)) hx hb dX8_runs_160 (by decide) ?_
    refine lv_goto (tgt := 165) hx hb dX8_runs_161 (by decide) ?_
    refine lv_icmp_eq (tgt := 176) hx hb dX8_runs_165 (by decide) (fun c_18 => ?_) (fun c_18 => ?_)
    · replace hres := mi_p c_18 hres
      exact zX8_runs_L176 C0 hk84 zf zv zo zu x3 x4 x5 _ _ ls hP hD hS (lv_sub hl [0, 1, 2, 3] rfl) hres
    · replace hres := mi_n c_18 hres
      refine lv_aload_n hx hb dX8_runs_168 rfl (lv_at hl 0 rfl) ?_
      refine va_get (D := (dC, dI)) (ci := 8) (v := .ref (q 13)) (C := RX8) (T := TX8) (N := 26) hx hb hts hwX8_runs_RX8 hown hK hP 0 rfl rfl 15 (by decide) (hts _ mwX8_runs_4) (fun _ h9 => h9) rfl dX8_runs_169 ?_
      refine lv_iload hx hb dX8_runs_172 (lv_at hl 2 rfl) ?_
      refine lv_iconst (v := (1 : Int32)) hx hb dX8_runs_174 (by decide) ?_
      refine va_zast (D := (dC, dI)) (cl := vwCl) hx hb hK hP hD hS 13 2 rfl rfl g_13 dX8_runs_175 (fun H locs hP hD hS => ?_)
      have hP : va_P (dC, dI) vwCl (wM q cI cJ cZ zn zm zj zf zr zw zs zfr zto zk zt za zb zq zl zv zo (upd zu (Int32.toNatClampNeg x4) (vp_nar .boolean (1 : Int32))) zov ztu zsh zle zmo zc zlo zhi) H := hP
      have hD : va_D A (wM q cI cJ cZ zn zm zj zf zr zw zs zfr zto zk zt za zb zq zl zv zo (upd zu (Int32.toNatClampNeg x4) (vp_nar .boolean (1 : Int32))) zov ztu zsh zle zmo zc zlo zhi) := hD
      exact zX8_runs_L176 C0 hk84 zf zv zo (upd zu (Int32.toNatClampNeg x4) (vp_nar .boolean (1 : Int32))) x3 x4 x5 _ _ ls hP hD hS (lv_sub hl [0, 1, 2, 3] rfl) hres
set_option maxHeartbeats 4000000 in
set_option maxRecDepth 100000 in
theorem zX8_runs_L84 {p : Program} {l : Launch} {e : Env} {s : State} {m : MethodId} {args : Array Value} {below : List Frame} {meth : Method} {c : Code} {A : Nat → Prop} {dC : Nat → ClassId} {dI : Nat → Nat → Nat} {q : Nat → Nat} {cI cJ cZ : ClassId} {zn : Int32} {zm : Int32} {zj : Int32} {zr : Int32} {zw : Nat → Int32} {zs : Nat → Int32} {zfr : Nat → Int32} {zto : Nat → Int32} {zk : Nat → Int32} {zt : Nat → Int32} {za : Nat → Int32} {zb : Nat → Int32} {zq : Nat → Int32} {zl : Nat → Int32} {zov : Nat → Int32} {ztu : Nat → Int32} {zsh : Nat → Int32} {zle : Nat → Int64} {zmo : Nat → Int64} {zc : Nat → Int32} {zlo : Nat → Int64} {zhi : Nat → Int64}  (C0 : Cx p s m args meth c cX8_runs 7 none RX8 wsX8_runs A (dC, dI) (ty3 cI cJ cZ)) {RES : (Int32) × (Nat → Int64) × (Nat → Int32) × (Nat → Int32)}  : ∀ n : Nat, iX8_runs_L84 p l e s m args below meth c A dC dI q cI cJ cZ zn zm zj zr zw zs zfr zto zk zt za zb zq zl zov ztu zsh zle zmo zc zlo zhi RES (mX8_runs_L84 zn zm zj zw zs zk zt za zb zl n) := by
  have C1 := C0
  obtain ⟨hx, hb, hr, hml, hown, hts, hlocks, hN, hK, hA⟩ := C1
  intro n
  induction n with
  | zero =>
    intro zf zv zo zu x3 H locs ls hP hD hS hl hres
    exact mi_0 hres
  | succ n ih =>
    intro zf zv zo zu x3 H locs ls hP hD hS hl hres
    rw [mX8_runs_L84] at hres
    refine lv_iload_n hx hb dX8_runs_84 rfl (lv_at hl 1 rfl) ?_
    refine lv_aload_n hx hb dX8_runs_85 rfl (lv_at hl 0 rfl) ?_
    refine va_get (D := (dC, dI)) (ci := 8) (v := .int zj) (C := RX8) (T := TX8) (N := 26) hx hb hts hwX8_runs_RX8 hown hK hP 0 rfl rfl 12 (by decide) (hts _ mwX8_runs_5) (fun _ h9 => h9) rfl dX8_runs_86 ?_
    refine lv_icmp_ge (tgt := 245) hx hb dX8_runs_89 (by decide) (fun c_7 => ?_) (fun c_7 => ?_)
    · replace hres := mi_p c_7 hres
      obtain rfl := Option.some.inj hres
      exact ret_V C0 hP hD hS dX8_runs_245
    · replace hres := mi_n c_7 hres
      refine lv_aload_n hx hb dX8_runs_92 rfl (lv_at hl 0 rfl) ?_
      refine va_get (D := (dC, dI)) (ci := 8) (v := .ref (q 10)) (C := RX8) (T := TX8) (N := 26) hx hb hts hwX8_runs_RX8 hown hK hP 0 rfl rfl 11 (by decide) (hts _ mwX8_runs_6) (fun _ h9 => h9) rfl dX8_runs_93 ?_
      refine lv_iload_n hx hb dX8_runs_96 rfl (lv_at hl 1 rfl) ?_
      obtain ⟨g_8, hres⟩ := mi_g hres
      refine va_iald (D := (dC, dI)) (cl := vwCl) hx hb hK hP 10 0 rfl rfl g_8 dX8_runs_97 ?_
      refine lv_istore (lv' := [(4, .int (zl (Int32.toNatClampNeg x3))), (0, .ref (q 0)), (3, .int x3)]) hx hb dX8_runs_98 hl (by decide) rfl (fun ls hl => ?_)
      refine lv_aload_n hx hb dX8_runs_100 rfl (lv_at hl 1 rfl) ?_
      refine lv_iload hx hb dX8_runs_101 (lv_at hl 0 rfl) ?_
      obtain ⟨u9, hu9, hres⟩ := mi_b hres
      refine call_L C0 (run_V C0 (rest := []) (kX8_valueOf l dC dI q cI cJ cZ zn zm zj zf zr zw zs zfr zto zk zt za zb zq zl zv zo zu zov ztu zsh zle zmo zc zlo zhi  (zl (Int32.toNatClampNeg x3)) u9 hu9 _) (cwV 1 hts gX8_runs_X8_valueOf rfl rfl rfl (by decide +kernel) ⟨by decide, by decide⟩) hP hD (ci := 8) (q0 := 0) rfl rfl rfl hl.1 rfl (Nat.le_of_ble_eq_true rfl) dX8_runs_103) hD hS (fun H locs hP hD hS => ?_)
      refine lv_lstore (lv' := [(5, .long u9), (4, .int (zl (Int32.toNatClampNeg x3))), (0, .ref (q 0)), (3, .int x3)]) hx hb dX8_runs_106 hl (by decide) rfl (fun ls hl => ?_)
      refine lv_aload_n hx hb dX8_runs_108 rfl (lv_at hl 2 rfl) ?_
      refine va_get (D := (dC, dI)) (ci := 8) (v := .ref (q 5)) (C := RX8) (T := TX8) (N := 26) hx hb hts hwX8_runs_RX8 hown hK hP 0 rfl rfl 4 (by decide) (hts _ mwX8_runs_7) (fun _ h9 => h9) rfl dX8_runs_109 ?_
      refine lv_iload hx hb dX8_runs_112 (lv_at hl 1 rfl) ?_
      obtain ⟨g_10, hres⟩ := mi_g hres
      refine va_iald (D := (dC, dI)) (cl := vwCl) hx hb hK hP 5 0 rfl rfl g_10 dX8_runs_114 ?_
      refine lv_bipush (v := (7 : Int32)) hx hb dX8_runs_115 (by decide) ?_
      refine lv_icmp_ne (tgt := 176) hx hb dX8_runs_117 (by decide) (fun c_11 => ?_) (fun c_11 => ?_)
      · replace hres := mi_n c_11 hres
        exact zX8_runs_L176 C0 ih zf zv zo zu x3 (zl (Int32.toNatClampNeg x3)) u9 _ _ ls hP hD hS (lv_sub hl [2, 3, 1, 0] rfl) hres
      · replace hres := mi_p c_11 hres
        refine lv_lload hx hb dX8_runs_120 (lv_at hl 0 rfl) ?_
        refine lv_lconst (v := (1 : Int64)) hx hb dX8_runs_122 (by decide) ?_
        refine W.lcmp hx hb dX8_runs_123 ?_
        refine lv_if_ne (tgt := 131) hx hb dX8_runs_124 (by decide) (fun c_12 => ?_) (fun c_12 => ?_)
        · rw [lg_cmp_eq] at c_12
          replace hres := mi_n c_12 hres
          refine lv_iconst (v := (0 : Int32)) hx hb dX8_runs_131 (by decide) ?_
          exact zX8_runs_L132 C0 ih zf zv zo zu x3 (zl (Int32.toNatClampNeg x3)) u9 (0 : Int32) _ _ ls hP hD hS (lv_sub hl [2, 3, 1, 0] rfl) hres
        · rw [lg_cmp_eq] at c_12
          replace hres := mi_p c_12 hres
          refine lv_iconst (v := (1 : Int32)) hx hb dX8_runs_127 (by decide) ?_
          refine lv_goto (tgt := 132) hx hb dX8_runs_128 (by decide) ?_
          exact zX8_runs_L132 C0 ih zf zv zo zu x3 (zl (Int32.toNatClampNeg x3)) u9 (1 : Int32) _ _ ls hP hD hS (lv_sub hl [2, 3, 1, 0] rfl) hres
set_option maxHeartbeats 4000000 in
set_option maxRecDepth 100000 in
theorem zX8_runs_L23 {p : Program} {l : Launch} {e : Env} {s : State} {m : MethodId} {args : Array Value} {below : List Frame} {meth : Method} {c : Code} {A : Nat → Prop} {dC : Nat → ClassId} {dI : Nat → Nat → Nat} {q : Nat → Nat} {cI cJ cZ : ClassId} {zn : Int32} {zm : Int32} {zj : Int32} {zr : Int32} {zw : Nat → Int32} {zs : Nat → Int32} {zfr : Nat → Int32} {zto : Nat → Int32} {zk : Nat → Int32} {zt : Nat → Int32} {za : Nat → Int32} {zb : Nat → Int32} {zq : Nat → Int32} {zl : Nat → Int32} {zov : Nat → Int32} {ztu : Nat → Int32} {zsh : Nat → Int32} {zle : Nat → Int64} {zmo : Nat → Int64} {zc : Nat → Int32} {zlo : Nat → Int64} {zhi : Nat → Int64}  (C0 : Cx p s m args meth c cX8_runs 7 none RX8 wsX8_runs A (dC, dI) (ty3 cI cJ cZ)) {RES : (Int32) × (Nat → Int64) × (Nat → Int32) × (Nat → Int32)}  : ∀ n : Nat, iX8_runs_L23 p l e s m args below meth c A dC dI q cI cJ cZ zn zm zj zr zw zs zfr zto zk zt za zb zq zl zov ztu zsh zle zmo zc zlo zhi RES (mX8_runs_L23 zn zm zj zw zs zk zt za zb zl n) := by
  have C1 := C0
  obtain ⟨hx, hb, hr, hml, hown, hts, hlocks, hN, hK, hA⟩ := C1
  intro n
  induction n with
  | zero =>
    intro zf zv zo zu x1 x2 x3 H locs ls hP hD hS hl hres
    exact mi_0 hres
  | succ n ih =>
    intro zf zv zo zu x1 x2 x3 H locs ls hP hD hS hl hres
    rw [mX8_runs_L23] at hres
    refine lv_iload_n hx hb dX8_runs_23 rfl (lv_at hl 3 rfl) ?_
    refine lv_aload_n hx hb dX8_runs_24 rfl (lv_at hl 0 rfl) ?_
    refine va_get (D := (dC, dI)) (ci := 8) (v := .int zn) (C := RX8) (T := TX8) (N := 26) hx hb hts hwX8_runs_RX8 hown hK hP 0 rfl rfl 9 (by decide) (hts _ mwX8_runs_1) (fun _ h9 => h9) rfl dX8_runs_25 ?_
    refine lv_icmp_ge (tgt := 51) hx hb dX8_runs_28 (by decide) (fun c_3 => ?_) (fun c_3 => ?_)
    · replace hres := mi_p c_3 hres
      refine lv_aload_n hx hb dX8_runs_51 rfl (lv_at hl 0 rfl) ?_
      refine lv_iconst (v := (-1 : Int32)) hx hb dX8_runs_52 (by decide) ?_
      refine va_put (D := (dC, dI)) (ci := 8) (v := .int (-1 : Int32)) (ty := .int) (C := RX8) (T := TX8) (N := 26) hx hb hts hwX8_runs_RX8 tyX8 tyX8_ok nmX8 hown hK hP hD hS 0 rfl rfl 16 (by decide) (hts _ mwX8_runs_2) (fun _ h9 => h9) rfl (by decide +kernel) rfl rfl (Nat.le_of_ble_eq_true rfl) dX8_runs_53 (fun H locs hP hD hS => ?_)
      have hP : va_P (dC, dI) vwCl (wM q cI cJ cZ zn zm zj (-1 : Int32) zr zw zs zfr zto zk zt za zb zq zl zv zo zu zov ztu zsh zle zmo zc zlo zhi) H := hP
      have hD : va_D A (wM q cI cJ cZ zn zm zj (-1 : Int32) zr zw zs zfr zto zk zt za zb zq zl zv zo zu zov ztu zsh zle zmo zc zlo zhi) := hD
      refine lv_aload_n hx hb dX8_runs_56 rfl (lv_at hl 0 rfl) ?_
      refine va_get (D := (dC, dI)) (ci := 8) (v := .ref (q 11)) (C := RX8) (T := TX8) (N := 26) hx hb hts hwX8_runs_RX8 hown hK hP 0 rfl rfl 13 (by decide) (hts _ mwX8_runs_0) (fun _ h9 => h9) rfl dX8_runs_57 ?_
      refine lv_iconst (v := (0 : Int32)) hx hb dX8_runs_60 (by decide) ?_
      refine lv_aload_n hx hb dX8_runs_61 rfl (lv_at hl 0 rfl) ?_
      refine lv_iconst (v := (0 : Int32)) hx hb dX8_runs_62 (by decide) ?_
      refine lv_iload_n hx hb dX8_runs_63 rfl (lv_at hl 1 rfl) ?_
      refine lv_i2l (v := (x1).toInt64) hx hb dX8_runs_64 rfl ?_
      obtain ⟨u4, hu4, hres⟩ := mi_b hres
      refine call_L C0 (run_V C0 (rest := [.int (0 : Int32), .ref (q 11)]) (kX8_put l dC dI q cI cJ cZ zn zm zj (-1 : Int32) zr zw zs zfr zto zk zt za zb zq zl zv zo zu zov ztu zsh zle zmo zc zlo zhi  (0 : Int32) ((x1).toInt64) u4 hu4 _) (cwV 2 hts gX8_runs_X8_put rfl rfl rfl (by decide +kernel) ⟨by decide, by decide⟩) hP hD (ci := 8) (q0 := 0) rfl rfl rfl hl.1 rfl (Nat.le_of_ble_eq_true rfl) dX8_runs_65) hD hS (fun H locs hP hD hS => ?_)
      refine va_last (D := (dC, dI)) (cl := vwCl) hx hb hK hP hD hS 11 1 rfl rfl (show ¬ ((0 : Int32) < 0 ∨ 6 ≤ Int32.toNatClampNeg (0 : Int32)) by decide) dX8_runs_68 (fun H locs hP hD hS => ?_)
      have hP : va_P (dC, dI) vwCl (wM q cI cJ cZ zn zm zj (-1 : Int32) zr zw zs zfr zto zk zt za zb zq zl (vp_updL zv (Int32.toNatClampNeg (0 : Int32)) u4) zo zu zov ztu zsh zle zmo zc zlo zhi) H := hP
      have hD : va_D A (wM q cI cJ cZ zn zm zj (-1 : Int32) zr zw zs zfr zto zk zt za zb zq zl (vp_updL zv (Int32.toNatClampNeg (0 : Int32)) u4) zo zu zov ztu zsh zle zmo zc zlo zhi) := hD
      refine lv_aload_n hx hb dX8_runs_69 rfl (lv_at hl 0 rfl) ?_
      refine va_get (D := (dC, dI)) (ci := 8) (v := .ref (q 11)) (C := RX8) (T := TX8) (N := 26) hx hb hts hwX8_runs_RX8 hown hK hP 0 rfl rfl 13 (by decide) (hts _ mwX8_runs_0) (fun _ h9 => h9) rfl dX8_runs_70 ?_
      refine lv_iconst (v := (1 : Int32)) hx hb dX8_runs_73 (by decide) ?_
      refine lv_aload_n hx hb dX8_runs_74 rfl (lv_at hl 0 rfl) ?_
      refine lv_iconst (v := (1 : Int32)) hx hb dX8_runs_75 (by decide) ?_
      refine lv_iload_n hx hb dX8_runs_76 rfl (lv_at hl 2 rfl) ?_
      refine lv_i2l (v := (x2).toInt64) hx hb dX8_runs_77 rfl ?_
      obtain ⟨u5, hu5, hres⟩ := mi_b hres
      refine call_L C0 (run_V C0 (rest := [.int (1 : Int32), .ref (q 11)]) (kX8_put l dC dI q cI cJ cZ zn zm zj (-1 : Int32) zr zw zs zfr zto zk zt za zb zq zl (vp_updL zv (Int32.toNatClampNeg (0 : Int32)) u4) zo zu zov ztu zsh zle zmo zc zlo zhi  (1 : Int32) ((x2).toInt64) u5 hu5 _) (cwV 2 hts gX8_runs_X8_put rfl rfl rfl (by decide +kernel) ⟨by decide, by decide⟩) hP hD (ci := 8) (q0 := 0) rfl rfl rfl hl.1 rfl (Nat.le_of_ble_eq_true rfl) dX8_runs_78) hD hS (fun H locs hP hD hS => ?_)
      refine va_last (D := (dC, dI)) (cl := vwCl) hx hb hK hP hD hS 11 1 rfl rfl (show ¬ ((1 : Int32) < 0 ∨ 6 ≤ Int32.toNatClampNeg (1 : Int32)) by decide) dX8_runs_81 (fun H locs hP hD hS => ?_)
      have hP : va_P (dC, dI) vwCl (wM q cI cJ cZ zn zm zj (-1 : Int32) zr zw zs zfr zto zk zt za zb zq zl (vp_updL (vp_updL zv (Int32.toNatClampNeg (0 : Int32)) u4) (Int32.toNatClampNeg (1 : Int32)) u5) zo zu zov ztu zsh zle zmo zc zlo zhi) H := hP
      have hD : va_D A (wM q cI cJ cZ zn zm zj (-1 : Int32) zr zw zs zfr zto zk zt za zb zq zl (vp_updL (vp_updL zv (Int32.toNatClampNeg (0 : Int32)) u4) (Int32.toNatClampNeg (1 : Int32)) u5) zo zu zov ztu zsh zle zmo zc zlo zhi) := hD
      refine lv_iconst (v := (0 : Int32)) hx hb dX8_runs_82 (by decide) ?_
      refine lv_istore_n (lv' := [(3, .int (0 : Int32)), (0, .ref (q 0)), (1, .int x1), (2, .int x2)]) hx hb dX8_runs_83 rfl hl (by decide) rfl (fun ls hl => ?_)
      exact zX8_runs_L84 C0  FU (-1 : Int32) (vp_updL (vp_updL zv (Int32.toNatClampNeg (0 : Int32)) u4) (Int32.toNatClampNeg (1 : Int32)) u5) zo zu (0 : Int32) _ _ ls hP hD hS (lv_sub hl [1, 0] rfl) hres
    · replace hres := mi_n c_3 hres
      refine lv_aload_n hx hb dX8_runs_31 rfl (lv_at hl 0 rfl) ?_
      refine va_get (D := (dC, dI)) (ci := 8) (v := .ref (q 12)) (C := RX8) (T := TX8) (N := 26) hx hb hts hwX8_runs_RX8 hown hK hP 0 rfl rfl 14 (by decide) (hts _ mwX8_runs_3) (fun _ h9 => h9) rfl dX8_runs_32 ?_
      refine lv_iload_n hx hb dX8_runs_35 rfl (lv_at hl 3 rfl) ?_
      refine lv_iconst (v := (0 : Int32)) hx hb dX8_runs_36 (by decide) ?_
      obtain ⟨g_6, hres⟩ := mi_g hres
      refine va_zast (D := (dC, dI)) (cl := vwCl) hx hb hK hP hD hS 12 2 rfl rfl g_6 dX8_runs_37 (fun H locs hP hD hS => ?_)
      have hP : va_P (dC, dI) vwCl (wM q cI cJ cZ zn zm zj zf zr zw zs zfr zto zk zt za zb zq zl zv (upd zo (Int32.toNatClampNeg x3) (vp_nar .boolean (0 : Int32))) zu zov ztu zsh zle zmo zc zlo zhi) H := hP
      have hD : va_D A (wM q cI cJ cZ zn zm zj zf zr zw zs zfr zto zk zt za zb zq zl zv (upd zo (Int32.toNatClampNeg x3) (vp_nar .boolean (0 : Int32))) zu zov ztu zsh zle zmo zc zlo zhi) := hD
      refine lv_aload_n hx hb dX8_runs_38 rfl (lv_at hl 0 rfl) ?_
      refine va_get (D := (dC, dI)) (ci := 8) (v := .ref (q 13)) (C := RX8) (T := TX8) (N := 26) hx hb hts hwX8_runs_RX8 hown hK hP 0 rfl rfl 15 (by decide) (hts _ mwX8_runs_4) (fun _ h9 => h9) rfl dX8_runs_39 ?_
      refine lv_iload_n hx hb dX8_runs_42 rfl (lv_at hl 3 rfl) ?_
      refine lv_iconst (v := (0 : Int32)) hx hb dX8_runs_43 (by decide) ?_
      refine va_zast (D := (dC, dI)) (cl := vwCl) hx hb hK hP hD hS 13 2 rfl rfl g_6 dX8_runs_44 (fun H locs hP hD hS => ?_)
      have hP : va_P (dC, dI) vwCl (wM q cI cJ cZ zn zm zj zf zr zw zs zfr zto zk zt za zb zq zl zv (upd zo (Int32.toNatClampNeg x3) (vp_nar .boolean (0 : Int32))) (upd zu (Int32.toNatClampNeg x3) (vp_nar .boolean (0 : Int32))) zov ztu zsh zle zmo zc zlo zhi) H := hP
      have hD : va_D A (wM q cI cJ cZ zn zm zj zf zr zw zs zfr zto zk zt za zb zq zl zv (upd zo (Int32.toNatClampNeg x3) (vp_nar .boolean (0 : Int32))) (upd zu (Int32.toNatClampNeg x3) (vp_nar .boolean (0 : Int32))) zov ztu zsh zle zmo zc zlo zhi) := hD
      refine lv_iinc (v := x3 + (1 : Int32)) (lv' := [(3, .int (x3 + (1 : Int32))), (0, .ref (q 0)), (1, .int x1), (2, .int x2)]) hx hb dX8_runs_45 hl (k := 3) rfl rfl (by decide) rfl (fun ls hl => ?_)
      refine lv_goto (tgt := 23) hx hb dX8_runs_48 (by decide) ?_
      exact ih zf zv (upd zo (Int32.toNatClampNeg x3) (vp_nar .boolean (0 : Int32))) (upd zu (Int32.toNatClampNeg x3) (vp_nar .boolean (0 : Int32))) x1 x2 (x3 + (1 : Int32)) _ _ ls hP hD hS (lv_sub hl [1, 2, 3, 0] rfl) hres
set_option maxHeartbeats 4000000 in
set_option maxRecDepth 100000 in
theorem zX8_runs_L2 {p : Program} {l : Launch} {e : Env} {s : State} {m : MethodId} {args : Array Value} {below : List Frame} {meth : Method} {c : Code} {A : Nat → Prop} {dC : Nat → ClassId} {dI : Nat → Nat → Nat} {q : Nat → Nat} {cI cJ cZ : ClassId} {zn : Int32} {zm : Int32} {zj : Int32} {zr : Int32} {zw : Nat → Int32} {zs : Nat → Int32} {zfr : Nat → Int32} {zto : Nat → Int32} {zk : Nat → Int32} {zt : Nat → Int32} {za : Nat → Int32} {zb : Nat → Int32} {zq : Nat → Int32} {zl : Nat → Int32} {zov : Nat → Int32} {ztu : Nat → Int32} {zsh : Nat → Int32} {zle : Nat → Int64} {zmo : Nat → Int64} {zc : Nat → Int32} {zlo : Nat → Int64} {zhi : Nat → Int64}  (C0 : Cx p s m args meth c cX8_runs 7 none RX8 wsX8_runs A (dC, dI) (ty3 cI cJ cZ)) {RES : (Int32) × (Nat → Int64) × (Nat → Int32) × (Nat → Int32)}  : ∀ n : Nat, iX8_runs_L2 p l e s m args below meth c A dC dI q cI cJ cZ zn zm zj zr zw zs zfr zto zk zt za zb zq zl zov ztu zsh zle zmo zc zlo zhi RES (mX8_runs_L2 zn zm zj zw zs zk zt za zb zl n) := by
  have C1 := C0
  obtain ⟨hx, hb, hr, hml, hown, hts, hlocks, hN, hK, hA⟩ := C1
  intro n
  induction n with
  | zero =>
    intro zf zv zo zu x1 x2 x3 H locs ls hP hD hS hl hres
    exact mi_0 hres
  | succ n ih =>
    intro zf zv zo zu x1 x2 x3 H locs ls hP hD hS hl hres
    rw [mX8_runs_L2] at hres
    refine lv_iload_n hx hb dX8_runs_2 rfl (lv_at hl 3 rfl) ?_
    refine lv_bipush (v := (6 : Int32)) hx hb dX8_runs_3 (by decide) ?_
    refine lv_icmp_ge (tgt := 21) hx hb dX8_runs_5 (by decide) (fun c_1 => ?_) (fun c_1 => ?_)
    · replace hres := mi_p c_1 hres
      refine lv_iconst (v := (0 : Int32)) hx hb dX8_runs_21 (by decide) ?_
      refine lv_istore_n (lv' := [(3, .int (0 : Int32)), (0, .ref (q 0)), (1, .int x1), (2, .int x2)]) hx hb dX8_runs_22 rfl hl (by decide) rfl (fun ls hl => ?_)
      exact zX8_runs_L23 C0  FU zf zv zo zu x1 x2 (0 : Int32) _ _ ls hP hD hS (lv_sub hl [1, 2, 3, 0] rfl) hres
    · replace hres := mi_n c_1 hres
      refine lv_aload_n hx hb dX8_runs_8 rfl (lv_at hl 0 rfl) ?_
      refine va_get (D := (dC, dI)) (ci := 8) (v := .ref (q 11)) (C := RX8) (T := TX8) (N := 26) hx hb hts hwX8_runs_RX8 hown hK hP 0 rfl rfl 13 (by decide) (hts _ mwX8_runs_0) (fun _ h9 => h9) rfl dX8_runs_9 ?_
      refine lv_iload_n hx hb dX8_runs_12 rfl (lv_at hl 3 rfl) ?_
      refine lv_lconst (v := (0 : Int64)) hx hb dX8_runs_13 (by decide) ?_
      obtain ⟨g_2, hres⟩ := mi_g hres
      refine va_last (D := (dC, dI)) (cl := vwCl) hx hb hK hP hD hS 11 1 rfl rfl g_2 dX8_runs_14 (fun H locs hP hD hS => ?_)
      have hP : va_P (dC, dI) vwCl (wM q cI cJ cZ zn zm zj zf zr zw zs zfr zto zk zt za zb zq zl (vp_updL zv (Int32.toNatClampNeg x3) (0 : Int64)) zo zu zov ztu zsh zle zmo zc zlo zhi) H := hP
      have hD : va_D A (wM q cI cJ cZ zn zm zj zf zr zw zs zfr zto zk zt za zb zq zl (vp_updL zv (Int32.toNatClampNeg x3) (0 : Int64)) zo zu zov ztu zsh zle zmo zc zlo zhi) := hD
      refine lv_iinc (v := x3 + (1 : Int32)) (lv' := [(3, .int (x3 + (1 : Int32))), (0, .ref (q 0)), (1, .int x1), (2, .int x2)]) hx hb dX8_runs_15 hl (k := 3) rfl rfl (by decide) rfl (fun ls hl => ?_)
      refine lv_goto (tgt := 2) hx hb dX8_runs_18 (by decide) ?_
      exact ih zf (vp_updL zv (Int32.toNatClampNeg x3) (0 : Int64)) zo zu x1 x2 (x3 + (1 : Int32)) _ _ ls hP hD hS (lv_sub hl [1, 2, 3, 0] rfl) hres
set_option maxHeartbeats 4000000 in
set_option maxRecDepth 100000 in
theorem kX8_runs (l : Launch) (dC : Nat → ClassId) (dI : Nat → Nat → Nat) (q : Nat → Nat) (cI cJ cZ : ClassId) (zn : Int32) (zm : Int32) (zj : Int32) (zf : Int32) (zr : Int32) (zw : Nat → Int32) (zs : Nat → Int32) (zfr : Nat → Int32) (zto : Nat → Int32) (zk : Nat → Int32) (zt : Nat → Int32) (za : Nat → Int32) (zb : Nat → Int32) (zq : Nat → Int32) (zl : Nat → Int32) (zv : Nat → Int64) (zo : Nat → Int32) (zu : Nat → Int32) (zov : Nat → Int32) (ztu : Nat → Int32) (zsh : Nat → Int32) (zle : Nat → Int64) (zmo : Nat → Int64) (zc : Nat → Int32) (zlo : Nat → Int64) (zhi : Nat → Int64) (x1 : Int32) (x2 : Int32) (RES : (Int32) × (Nat → Int64) × (Nat → Int32) × (Nat → Int32)) (hres : mX8_runs zn zm zj zf zw zs zk zt za zb zl zv zo zu x1 x2 = some RES) : CtV l yX8_runs wsX8_runs rmX8_runs (dC, dI) (ty3 cI cJ cZ) (wM q cI cJ cZ zn zm zj zf zr zw zs zfr zto zk zt za zb zq zl zv zo zu zov ztu zsh zle zmo zc zlo zhi) [.ref (q 0), .int x1, .int x2] (wM q cI cJ cZ zn zm zj RES.1 zr zw zs zfr zto zk zt za zb zq zl RES.2.1 RES.2.2.1 RES.2.2.2 zov ztu zsh zle zmo zc zlo zhi) := by
  intro sz
  refine ct_entry (cc := cX8_runs) (maxL := 7) (ret := none) (own := RX8) (by decide) rfl rfl (Nat.le_of_ble_eq_true rfl) (ll := [(0, .ref (q 0)), (1, .int x1), (2, .int x2)]) rfl ?_
  intro p e s m args below meth c hsz C0 _ hP hD ls hl
  have C1 := C0
  obtain ⟨hx, hb, hr, hml, hown, hts, hlocks, hN, hK, hA⟩ := C1
  have hS : va_S (va_A (wM q cI cJ cZ zn zm zj zf zr zw zs zfr zto zk zt za zb zq zl zv zo zu zov ztu zsh zle zmo zc zlo zhi) sz) s.heap s.heap [] := va_S.rf
  generalize va_A (wM q cI cJ cZ zn zm zj zf zr zw zs zfr zto zk zt za zb zq zl zv zo zu zov ztu zsh zle zmo zc zlo zhi) sz = A at C0 hD hA hS ⊢
  show W p l e rmX8_runs s m args below meth c s.heap [] 0 0 (QV below args s A (dC, dI) (ty3 cI cJ cZ) (wM q cI cJ cZ zn zm zj RES.1 zr zw zs zfr zto zk zt za zb zq zl RES.2.1 RES.2.2.1 RES.2.2.2 zov ztu zsh zle zmo zc zlo zhi)) (F0 m 0 ls [])
  unfold mX8_runs at hres
  refine lv_iconst (v := (0 : Int32)) hx hb dX8_runs_0 (by decide) ?_
  refine lv_istore_n (lv' := [(3, .int (0 : Int32)), (0, .ref (q 0)), (1, .int x1), (2, .int x2)]) hx hb dX8_runs_1 rfl hl (by decide) rfl (fun ls hl => ?_)
  exact zX8_runs_L2 C0  FU zf zv zo zu x1 x2 (0 : Int32) _ _ ls hP hD hS (lv_sub hl [1, 2, 3, 0] rfl) hres
/-! ### SumsOverModel.many()I -/
set_option maxRecDepth 20000 in
theorem hwX8_many_RX8 : ∀ w ∈ u_ws RX8 TX8 26, w ∈ wsX8_many := by decide +kernel
theorem mwX8_many_0 : (.fieldLink RX8 20 "SumsOverModel" "to" "[I" : Cond) ∈ wsX8_many := by decide +kernel
theorem mwX8_many_1 : (.fieldLink RX8 17 "SumsOverModel" "from" "[I" : Cond) ∈ wsX8_many := by decide +kernel
def rmX8_many : Room := { frames := 0, cells := 0, slots := 0, locals := 0 }
set_option maxHeartbeats 4000000 in
set_option maxRecDepth 100000 in
theorem kX8_many (l : Launch) (dC : Nat → ClassId) (dI : Nat → Nat → Nat) (q : Nat → Nat) (cI cJ cZ : ClassId) (zn : Int32) (zm : Int32) (zj : Int32) (zf : Int32) (zr : Int32) (zw : Nat → Int32) (zs : Nat → Int32) (zfr : Nat → Int32) (zto : Nat → Int32) (zk : Nat → Int32) (zt : Nat → Int32) (za : Nat → Int32) (zb : Nat → Int32) (zq : Nat → Int32) (zl : Nat → Int32) (zv : Nat → Int64) (zo : Nat → Int32) (zu : Nat → Int32) (zov : Nat → Int32) (ztu : Nat → Int32) (zsh : Nat → Int32) (zle : Nat → Int64) (zmo : Nat → Int64) (zc : Nat → Int32) (zlo : Nat → Int64) (zhi : Nat → Int64)  (RES : Int32) (hres : mX8_many zfr zto = some RES) : CtI l yX8_many wsX8_many rmX8_many (dC, dI) (ty3 cI cJ cZ) (wM q cI cJ cZ zn zm zj zf zr zw zs zfr zto zk zt za zb zq zl zv zo zu zov ztu zsh zle zmo zc zlo zhi) [.ref (q 0)] RES (wM q cI cJ cZ zn zm zj zf zr zw zs zfr zto zk zt za zb zq zl zv zo zu zov ztu zsh zle zmo zc zlo zhi) := by
  intro sz
  refine ct_entry (cc := cX8_many) (maxL := 1) (ret := some .int) (own := RX8) (by decide) rfl rfl (Nat.le_of_ble_eq_true rfl) (ll := [(0, .ref (q 0))]) rfl ?_
  intro p e s m args below meth c hsz C0 _ hP hD ls hl
  have C1 := C0
  obtain ⟨hx, hb, hr, hml, hown, hts, hlocks, hN, hK, hA⟩ := C1
  have hS : va_S (va_A (wM q cI cJ cZ zn zm zj zf zr zw zs zfr zto zk zt za zb zq zl zv zo zu zov ztu zsh zle zmo zc zlo zhi) sz) s.heap s.heap [] := va_S.rf
  generalize va_A (wM q cI cJ cZ zn zm zj zf zr zw zs zfr zto zk zt za zb zq zl zv zo zu zov ztu zsh zle zmo zc zlo zhi) sz = A at C0 hD hA hS ⊢
  show W p l e rmX8_many s m args below meth c s.heap [] 0 0 (QI below args s A (dC, dI) (ty3 cI cJ cZ) RES (wM q cI cJ cZ zn zm zj zf zr zw zs zfr zto zk zt za zb zq zl zv zo zu zov ztu zsh zle zmo zc zlo zhi)) (F0 m 0 ls [])
  unfold mX8_many at hres
  refine lv_aload_n hx hb dX8_many_0 rfl (lv_at hl 0 rfl) ?_
  refine va_get (D := (dC, dI)) (ci := 8) (v := .ref (q 4)) (C := RX8) (T := TX8) (N := 26) hx hb hts hwX8_many_RX8 hown hK hP 0 rfl rfl 3 (by decide) (hts _ mwX8_many_0) (fun _ h9 => h9) rfl dX8_many_1 ?_
  refine lv_iconst (v := (0 : Int32)) hx hb dX8_many_4 (by decide) ?_
  refine va_iald (D := (dC, dI)) (cl := vwCl) hx hb hK hP 4 0 rfl rfl (show ¬ ((0 : Int32) < 0 ∨ 2 ≤ Int32.toNatClampNeg (0 : Int32)) by decide) dX8_many_5 ?_
  refine lv_aload_n hx hb dX8_many_6 rfl (lv_at hl 0 rfl) ?_
  refine va_get (D := (dC, dI)) (ci := 8) (v := .ref (q 3)) (C := RX8) (T := TX8) (N := 26) hx hb hts hwX8_many_RX8 hown hK hP 0 rfl rfl 2 (by decide) (hts _ mwX8_many_1) (fun _ h9 => h9) rfl dX8_many_7 ?_
  refine lv_iconst (v := (0 : Int32)) hx hb dX8_many_10 (by decide) ?_
  refine va_iald (D := (dC, dI)) (cl := vwCl) hx hb hK hP 3 0 rfl rfl (show ¬ ((0 : Int32) < 0 ∨ 2 ≤ Int32.toNatClampNeg (0 : Int32)) by decide) dX8_many_11 ?_
  refine lv_isub hx hb dX8_many_12 ?_
  refine lv_iconst (v := (1 : Int32)) hx hb dX8_many_13 (by decide) ?_
  refine lv_iadd hx hb dX8_many_14 ?_
  refine lv_aload_n hx hb dX8_many_15 rfl (lv_at hl 0 rfl) ?_
  refine va_get (D := (dC, dI)) (ci := 8) (v := .ref (q 4)) (C := RX8) (T := TX8) (N := 26) hx hb hts hwX8_many_RX8 hown hK hP 0 rfl rfl 3 (by decide) (hts _ mwX8_many_0) (fun _ h9 => h9) rfl dX8_many_16 ?_
  refine lv_iconst (v := (1 : Int32)) hx hb dX8_many_19 (by decide) ?_
  refine va_iald (D := (dC, dI)) (cl := vwCl) hx hb hK hP 4 0 rfl rfl (show ¬ ((1 : Int32) < 0 ∨ 2 ≤ Int32.toNatClampNeg (1 : Int32)) by decide) dX8_many_20 ?_
  refine lv_aload_n hx hb dX8_many_21 rfl (lv_at hl 0 rfl) ?_
  refine va_get (D := (dC, dI)) (ci := 8) (v := .ref (q 3)) (C := RX8) (T := TX8) (N := 26) hx hb hts hwX8_many_RX8 hown hK hP 0 rfl rfl 2 (by decide) (hts _ mwX8_many_1) (fun _ h9 => h9) rfl dX8_many_22 ?_
  refine lv_iconst (v := (1 : Int32)) hx hb dX8_many_25 (by decide) ?_
  refine va_iald (D := (dC, dI)) (cl := vwCl) hx hb hK hP 3 0 rfl rfl (show ¬ ((1 : Int32) < 0 ∨ 2 ≤ Int32.toNatClampNeg (1 : Int32)) by decide) dX8_many_26 ?_
  refine lv_isub hx hb dX8_many_27 ?_
  refine lv_iconst (v := (1 : Int32)) hx hb dX8_many_28 (by decide) ?_
  refine lv_iadd hx hb dX8_many_29 ?_
  refine lv_imul hx hb dX8_many_30 ?_
  obtain rfl := Option.some.inj hres
  exact ret_I (r := ((((zto (Int32.toNatClampNeg (0 : Int32))) - (zfr (Int32.toNatClampNeg (0 : Int32)))) + (1 : Int32)) * (((zto (Int32.toNatClampNeg (1 : Int32))) - (zfr (Int32.toNatClampNeg (1 : Int32)))) + (1 : Int32)))) C0 rfl hP hD hS dX8_many_31
/-! ### SumsOverModel.all()V -/
set_option maxRecDepth 20000 in
theorem hwX8_all_RX8 : ∀ w ∈ u_ws RX8 TX8 26, w ∈ wsX8_all := by decide +kernel
theorem mwX8_all_0 : (.fieldLink RX8 153 "SumsOverModel" "runsOver" "I" : Cond) ∈ wsX8_all := by decide +kernel
theorem mwX8_all_1 : (.fieldLink RX8 75 "SumsOverModel" "steps" "I" : Cond) ∈ wsX8_all := by decide +kernel
theorem mwX8_all_2 : (.fieldLink RX8 17 "SumsOverModel" "from" "[I" : Cond) ∈ wsX8_all := by decide +kernel
theorem mwX8_all_3 : (.fieldLink RX8 51 "SumsOverModel" "overs" "[I" : Cond) ∈ wsX8_all := by decide +kernel
theorem mwX8_all_4 : (.fieldLink RX8 54 "SumsOverModel" "turns" "[I" : Cond) ∈ wsX8_all := by decide +kernel
theorem mwX8_all_5 : (.fieldLink RX8 57 "SumsOverModel" "shows" "[I" : Cond) ∈ wsX8_all := by decide +kernel
theorem mwX8_all_6 : (.fieldLink RX8 20 "SumsOverModel" "to" "[I" : Cond) ∈ wsX8_all := by decide +kernel
theorem mwX8_all_7 : (.fieldLink RX8 136 "SumsOverModel" "firstOver" "I" : Cond) ∈ wsX8_all := by decide +kernel
theorem mwX8_all_8 : (.fieldLink RX8 48 "SumsOverModel" "isTurned" "[Z" : Cond) ∈ wsX8_all := by decide +kernel
theorem mwX8_all_9 : (.fieldLink RX8 45 "SumsOverModel" "isOver" "[Z" : Cond) ∈ wsX8_all := by decide +kernel
def rmX8_all : Room := { frames := 4, cells := 0, slots := 0, locals := 99 }
def iX8_all_L133 (p : Program) (l : Launch) (e : Env) (s : State) (m : MethodId) (args : Array Value) (below : List Frame) (meth : Method) (c : Code) (A : Nat → Prop) (dC : Nat → ClassId) (dI : Nat → Nat → Nat) (q : Nat → Nat) (cI cJ cZ : ClassId) (zn : Int32) (zm : Int32) (zw : Nat → Int32) (zs : Nat → Int32) (zfr : Nat → Int32) (zto : Nat → Int32) (zk : Nat → Int32) (zt : Nat → Int32) (za : Nat → Int32) (zb : Nat → Int32) (zq : Nat → Int32) (zle : Nat → Int64) (zmo : Nat → Int64) (zc : Nat → Int32) (zlo : Nat → Int64) (zhi : Nat → Int64)  (RES : (Int32) × (Int32) × (Int32) × (Nat → Int32) × (Nat → Int64) × (Nat → Int32) × (Nat → Int32) × (Nat → Int32) × (Nat → Int32) × (Nat → Int32)) (k : (Int32) → (Int32) → (Int32) → (Nat → Int32) → (Nat → Int64) → (Nat → Int32) → (Nat → Int32) → (Nat → Int32) → (Nat → Int32) → (Nat → Int32) → (Int32) → (Int32) → (Int32) → Option ((Int32) × (Int32) × (Int32) × (Nat → Int32) × (Nat → Int64) × (Nat → Int32) × (Nat → Int32) × (Nat → Int32) × (Nat → Int32) × (Nat → Int32))) : Prop := ∀ (zj : Int32) (zf : Int32) (zr : Int32) (zl : Nat → Int32) (zv : Nat → Int64) (zo : Nat → Int32) (zu : Nat → Int32) (zov : Nat → Int32) (ztu : Nat → Int32) (zsh : Nat → Int32) (x1 : Int32) (x2 : Int32) (x3 : Int32) (H : Heap) (locs : List Loc) (ls : Array Slot), va_P (dC, dI) vwCl (wM q cI cJ cZ zn zm zj zf zr zw zs zfr zto zk zt za zb zq zl zv zo zu zov ztu zsh zle zmo zc zlo zhi) H → va_D A (wM q cI cJ cZ zn zm zj zf zr zw zs zfr zto zk zt za zb zq zl zv zo zu zov ztu zsh zle zmo zc zlo zhi) → va_S A s.heap H locs → lv_has ls 4 [(0, .ref (q 0)), (1, .int x1), (2, .int x2), (3, .int x3)] → k zj zf zr zl zv zo zu zov ztu zsh x1 x2 x3 = some RES → W p l e rmX8_all s m args below meth c H locs 0 0 (QV below args s A (dC, dI) (ty3 cI cJ cZ) (wM q cI cJ cZ zn zm RES.1 RES.2.1 RES.2.2.1 zw zs zfr zto zk zt za zb zq RES.2.2.2.1 RES.2.2.2.2.1 RES.2.2.2.2.2.1 RES.2.2.2.2.2.2.1 RES.2.2.2.2.2.2.2.1 RES.2.2.2.2.2.2.2.2.1 RES.2.2.2.2.2.2.2.2.2 zle zmo zc zlo zhi)) (F0 m 133 ls [])
def iX8_all_L106 (p : Program) (l : Launch) (e : Env) (s : State) (m : MethodId) (args : Array Value) (below : List Frame) (meth : Method) (c : Code) (A : Nat → Prop) (dC : Nat → ClassId) (dI : Nat → Nat → Nat) (q : Nat → Nat) (cI cJ cZ : ClassId) (zn : Int32) (zm : Int32) (zw : Nat → Int32) (zs : Nat → Int32) (zfr : Nat → Int32) (zto : Nat → Int32) (zk : Nat → Int32) (zt : Nat → Int32) (za : Nat → Int32) (zb : Nat → Int32) (zq : Nat → Int32) (zle : Nat → Int64) (zmo : Nat → Int64) (zc : Nat → Int32) (zlo : Nat → Int64) (zhi : Nat → Int64)  (RES : (Int32) × (Int32) × (Int32) × (Nat → Int32) × (Nat → Int64) × (Nat → Int32) × (Nat → Int32) × (Nat → Int32) × (Nat → Int32) × (Nat → Int32)) (k : (Int32) → (Int32) → (Int32) → (Nat → Int32) → (Nat → Int64) → (Nat → Int32) → (Nat → Int32) → (Nat → Int32) → (Nat → Int32) → (Nat → Int32) → (Int32) → (Int32) → (Int32) → Option ((Int32) × (Int32) × (Int32) × (Nat → Int32) × (Nat → Int64) × (Nat → Int32) × (Nat → Int32) × (Nat → Int32) × (Nat → Int32) × (Nat → Int32))) : Prop := ∀ (zj : Int32) (zf : Int32) (zr : Int32) (zl : Nat → Int32) (zv : Nat → Int64) (zo : Nat → Int32) (zu : Nat → Int32) (zov : Nat → Int32) (ztu : Nat → Int32) (zsh : Nat → Int32) (x1 : Int32) (x2 : Int32) (x3 : Int32) (H : Heap) (locs : List Loc) (ls : Array Slot), va_P (dC, dI) vwCl (wM q cI cJ cZ zn zm zj zf zr zw zs zfr zto zk zt za zb zq zl zv zo zu zov ztu zsh zle zmo zc zlo zhi) H → va_D A (wM q cI cJ cZ zn zm zj zf zr zw zs zfr zto zk zt za zb zq zl zv zo zu zov ztu zsh zle zmo zc zlo zhi) → va_S A s.heap H locs → lv_has ls 4 [(0, .ref (q 0)), (1, .int x1), (2, .int x2), (3, .int x3)] → k zj zf zr zl zv zo zu zov ztu zsh x1 x2 x3 = some RES → W p l e rmX8_all s m args below meth c H locs 0 0 (QV below args s A (dC, dI) (ty3 cI cJ cZ) (wM q cI cJ cZ zn zm RES.1 RES.2.1 RES.2.2.1 zw zs zfr zto zk zt za zb zq RES.2.2.2.1 RES.2.2.2.2.1 RES.2.2.2.2.2.1 RES.2.2.2.2.2.2.1 RES.2.2.2.2.2.2.2.1 RES.2.2.2.2.2.2.2.2.1 RES.2.2.2.2.2.2.2.2.2 zle zmo zc zlo zhi)) (F0 m 106 ls [])
def iX8_all_L70 (p : Program) (l : Launch) (e : Env) (s : State) (m : MethodId) (args : Array Value) (below : List Frame) (meth : Method) (c : Code) (A : Nat → Prop) (dC : Nat → ClassId) (dI : Nat → Nat → Nat) (q : Nat → Nat) (cI cJ cZ : ClassId) (zn : Int32) (zm : Int32) (zw : Nat → Int32) (zs : Nat → Int32) (zfr : Nat → Int32) (zto : Nat → Int32) (zk : Nat → Int32) (zt : Nat → Int32) (za : Nat → Int32) (zb : Nat → Int32) (zq : Nat → Int32) (zle : Nat → Int64) (zmo : Nat → Int64) (zc : Nat → Int32) (zlo : Nat → Int64) (zhi : Nat → Int64)  (RES : (Int32) × (Int32) × (Int32) × (Nat → Int32) × (Nat → Int64) × (Nat → Int32) × (Nat → Int32) × (Nat → Int32) × (Nat → Int32) × (Nat → Int32)) (k : (Int32) → (Int32) → (Int32) → (Nat → Int32) → (Nat → Int64) → (Nat → Int32) → (Nat → Int32) → (Nat → Int32) → (Nat → Int32) → (Nat → Int32) → (Int32) → (Int32) → Option ((Int32) × (Int32) × (Int32) × (Nat → Int32) × (Nat → Int64) × (Nat → Int32) × (Nat → Int32) × (Nat → Int32) × (Nat → Int32) × (Nat → Int32))) : Prop := ∀ (zj : Int32) (zf : Int32) (zr : Int32) (zl : Nat → Int32) (zv : Nat → Int64) (zo : Nat → Int32) (zu : Nat → Int32) (zov : Nat → Int32) (ztu : Nat → Int32) (zsh : Nat → Int32) (x1 : Int32) (x2 : Int32) (H : Heap) (locs : List Loc) (ls : Array Slot), va_P (dC, dI) vwCl (wM q cI cJ cZ zn zm zj zf zr zw zs zfr zto zk zt za zb zq zl zv zo zu zov ztu zsh zle zmo zc zlo zhi) H → va_D A (wM q cI cJ cZ zn zm zj zf zr zw zs zfr zto zk zt za zb zq zl zv zo zu zov ztu zsh zle zmo zc zlo zhi) → va_S A s.heap H locs → lv_has ls 4 [(0, .ref (q 0)), (1, .int x1), (2, .int x2)] → k zj zf zr zl zv zo zu zov ztu zsh x1 x2 = some RES → W p l e rmX8_all s m args below meth c H locs 0 0 (QV below args s A (dC, dI) (ty3 cI cJ cZ) (wM q cI cJ cZ zn zm RES.1 RES.2.1 RES.2.2.1 zw zs zfr zto zk zt za zb zq RES.2.2.2.1 RES.2.2.2.2.1 RES.2.2.2.2.2.1 RES.2.2.2.2.2.2.1 RES.2.2.2.2.2.2.2.1 RES.2.2.2.2.2.2.2.2.1 RES.2.2.2.2.2.2.2.2.2 zle zmo zc zlo zhi)) (F0 m 70 ls [])
def iX8_all_L53 (p : Program) (l : Launch) (e : Env) (s : State) (m : MethodId) (args : Array Value) (below : List Frame) (meth : Method) (c : Code) (A : Nat → Prop) (dC : Nat → ClassId) (dI : Nat → Nat → Nat) (q : Nat → Nat) (cI cJ cZ : ClassId) (zn : Int32) (zm : Int32) (zw : Nat → Int32) (zs : Nat → Int32) (zfr : Nat → Int32) (zto : Nat → Int32) (zk : Nat → Int32) (zt : Nat → Int32) (za : Nat → Int32) (zb : Nat → Int32) (zq : Nat → Int32) (zle : Nat → Int64) (zmo : Nat → Int64) (zc : Nat → Int32) (zlo : Nat → Int64) (zhi : Nat → Int64)  (RES : (Int32) × (Int32) × (Int32) × (Nat → Int32) × (Nat → Int64) × (Nat → Int32) × (Nat → Int32) × (Nat → Int32) × (Nat → Int32) × (Nat → Int32)) (k : (Int32) → (Int32) → (Int32) → (Nat → Int32) → (Nat → Int64) → (Nat → Int32) → (Nat → Int32) → (Nat → Int32) → (Nat → Int32) → (Nat → Int32) → (Int32) → Option ((Int32) × (Int32) × (Int32) × (Nat → Int32) × (Nat → Int64) × (Nat → Int32) × (Nat → Int32) × (Nat → Int32) × (Nat → Int32) × (Nat → Int32))) : Prop := ∀ (zj : Int32) (zf : Int32) (zr : Int32) (zl : Nat → Int32) (zv : Nat → Int64) (zo : Nat → Int32) (zu : Nat → Int32) (zov : Nat → Int32) (ztu : Nat → Int32) (zsh : Nat → Int32) (x1 : Int32) (H : Heap) (locs : List Loc) (ls : Array Slot), va_P (dC, dI) vwCl (wM q cI cJ cZ zn zm zj zf zr zw zs zfr zto zk zt za zb zq zl zv zo zu zov ztu zsh zle zmo zc zlo zhi) H → va_D A (wM q cI cJ cZ zn zm zj zf zr zw zs zfr zto zk zt za zb zq zl zv zo zu zov ztu zsh zle zmo zc zlo zhi) → va_S A s.heap H locs → lv_has ls 4 [(0, .ref (q 0)), (1, .int x1)] → k zj zf zr zl zv zo zu zov ztu zsh x1 = some RES → W p l e rmX8_all s m args below meth c H locs 0 0 (QV below args s A (dC, dI) (ty3 cI cJ cZ) (wM q cI cJ cZ zn zm RES.1 RES.2.1 RES.2.2.1 zw zs zfr zto zk zt za zb zq RES.2.2.2.1 RES.2.2.2.2.1 RES.2.2.2.2.2.1 RES.2.2.2.2.2.2.1 RES.2.2.2.2.2.2.2.1 RES.2.2.2.2.2.2.2.2.1 RES.2.2.2.2.2.2.2.2.2 zle zmo zc zlo zhi)) (F0 m 53 ls [])
def iX8_all_L11 (p : Program) (l : Launch) (e : Env) (s : State) (m : MethodId) (args : Array Value) (below : List Frame) (meth : Method) (c : Code) (A : Nat → Prop) (dC : Nat → ClassId) (dI : Nat → Nat → Nat) (q : Nat → Nat) (cI cJ cZ : ClassId) (zn : Int32) (zm : Int32) (zw : Nat → Int32) (zs : Nat → Int32) (zfr : Nat → Int32) (zto : Nat → Int32) (zk : Nat → Int32) (zt : Nat → Int32) (za : Nat → Int32) (zb : Nat → Int32) (zq : Nat → Int32) (zle : Nat → Int64) (zmo : Nat → Int64) (zc : Nat → Int32) (zlo : Nat → Int64) (zhi : Nat → Int64)  (RES : (Int32) × (Int32) × (Int32) × (Nat → Int32) × (Nat → Int64) × (Nat → Int32) × (Nat → Int32) × (Nat → Int32) × (Nat → Int32) × (Nat → Int32)) (k : (Int32) → (Int32) → (Int32) → (Nat → Int32) → (Nat → Int64) → (Nat → Int32) → (Nat → Int32) → (Nat → Int32) → (Nat → Int32) → (Nat → Int32) → (Int32) → Option ((Int32) × (Int32) × (Int32) × (Nat → Int32) × (Nat → Int64) × (Nat → Int32) × (Nat → Int32) × (Nat → Int32) × (Nat → Int32) × (Nat → Int32))) : Prop := ∀ (zj : Int32) (zf : Int32) (zr : Int32) (zl : Nat → Int32) (zv : Nat → Int64) (zo : Nat → Int32) (zu : Nat → Int32) (zov : Nat → Int32) (ztu : Nat → Int32) (zsh : Nat → Int32) (x1 : Int32) (H : Heap) (locs : List Loc) (ls : Array Slot), va_P (dC, dI) vwCl (wM q cI cJ cZ zn zm zj zf zr zw zs zfr zto zk zt za zb zq zl zv zo zu zov ztu zsh zle zmo zc zlo zhi) H → va_D A (wM q cI cJ cZ zn zm zj zf zr zw zs zfr zto zk zt za zb zq zl zv zo zu zov ztu zsh zle zmo zc zlo zhi) → va_S A s.heap H locs → lv_has ls 4 [(0, .ref (q 0)), (1, .int x1)] → k zj zf zr zl zv zo zu zov ztu zsh x1 = some RES → W p l e rmX8_all s m args below meth c H locs 0 0 (QV below args s A (dC, dI) (ty3 cI cJ cZ) (wM q cI cJ cZ zn zm RES.1 RES.2.1 RES.2.2.1 zw zs zfr zto zk zt za zb zq RES.2.2.2.1 RES.2.2.2.2.1 RES.2.2.2.2.2.1 RES.2.2.2.2.2.2.1 RES.2.2.2.2.2.2.2.1 RES.2.2.2.2.2.2.2.2.1 RES.2.2.2.2.2.2.2.2.2 zle zmo zc zlo zhi)) (F0 m 11 ls [])
set_option maxHeartbeats 4000000 in
set_option maxRecDepth 100000 in
theorem zX8_all_L133 {p : Program} {l : Launch} {e : Env} {s : State} {m : MethodId} {args : Array Value} {below : List Frame} {meth : Method} {c : Code} {A : Nat → Prop} {dC : Nat → ClassId} {dI : Nat → Nat → Nat} {q : Nat → Nat} {cI cJ cZ : ClassId} {zn : Int32} {zm : Int32} {zw : Nat → Int32} {zs : Nat → Int32} {zfr : Nat → Int32} {zto : Nat → Int32} {zk : Nat → Int32} {zt : Nat → Int32} {za : Nat → Int32} {zb : Nat → Int32} {zq : Nat → Int32} {zle : Nat → Int64} {zmo : Nat → Int64} {zc : Nat → Int32} {zlo : Nat → Int64} {zhi : Nat → Int64}  (C0 : Cx p s m args meth c cX8_all 4 none RX8 wsX8_all A (dC, dI) (ty3 cI cJ cZ)) {RES : (Int32) × (Int32) × (Int32) × (Nat → Int32) × (Nat → Int64) × (Nat → Int32) × (Nat → Int32) × (Nat → Int32) × (Nat → Int32) × (Nat → Int32)} {k53 : (Int32) → (Int32) → (Int32) → (Nat → Int32) → (Nat → Int64) → (Nat → Int32) → (Nat → Int32) → (Nat → Int32) → (Nat → Int32) → (Nat → Int32) → (Int32) → Option ((Int32) × (Int32) × (Int32) × (Nat → Int32) × (Nat → Int64) × (Nat → Int32) × (Nat → Int32) × (Nat → Int32) × (Nat → Int32) × (Nat → Int32))} (hk53 : iX8_all_L53 p l e s m args below meth c A dC dI q cI cJ cZ zn zm zw zs zfr zto zk zt za zb zq zle zmo zc zlo zhi RES k53) {k70 : (Int32) → (Int32) → (Int32) → (Nat → Int32) → (Nat → Int64) → (Nat → Int32) → (Nat → Int32) → (Nat → Int32) → (Nat → Int32) → (Nat → Int32) → (Int32) → (Int32) → Option ((Int32) × (Int32) × (Int32) × (Nat → Int32) × (Nat → Int64) × (Nat → Int32) × (Nat → Int32) × (Nat → Int32) × (Nat → Int32) × (Nat → Int32))} (hk70 : iX8_all_L70 p l e s m args below meth c A dC dI q cI cJ cZ zn zm zw zs zfr zto zk zt za zb zq zle zmo zc zlo zhi RES k70) {k106 : (Int32) → (Int32) → (Int32) → (Nat → Int32) → (Nat → Int64) → (Nat → Int32) → (Nat → Int32) → (Nat → Int32) → (Nat → Int32) → (Nat → Int32) → (Int32) → (Int32) → (Int32) → Option ((Int32) × (Int32) × (Int32) × (Nat → Int32) × (Nat → Int64) × (Nat → Int32) × (Nat → Int32) × (Nat → Int32) × (Nat → Int32) × (Nat → Int32))} (hk106 : iX8_all_L106 p l e s m args below meth c A dC dI q cI cJ cZ zn zm zw zs zfr zto zk zt za zb zq zle zmo zc zlo zhi RES k106) : iX8_all_L133 p l e s m args below meth c A dC dI q cI cJ cZ zn zm zw zs zfr zto zk zt za zb zq zle zmo zc zlo zhi RES (mX8_all_L133 zn zm zw zs zfr zto zk zt za zb k53 k70 k106) := by
  have C1 := C0
  obtain ⟨hx, hb, hr, hml, hown, hts, hlocks, hN, hK, hA⟩ := C1
  intro zj zf zr zl zv zo zu zov ztu zsh x1 x2 x3 H locs ls hP hD hS hl hres
  unfold mX8_all_L133 at hres
  refine lv_aload_n hx hb dX8_all_133 rfl (lv_at hl 0 rfl) ?_
  refine va_get (D := (dC, dI)) (ci := 8) (v := .ref (q 12)) (C := RX8) (T := TX8) (N := 26) hx hb hts hwX8_all_RX8 hown hK hP 0 rfl rfl 14 (by decide) (hts _ mwX8_all_9) (fun _ h9 => h9) rfl dX8_all_134 ?_
  refine lv_iload_n hx hb dX8_all_137 rfl (lv_at hl 3 rfl) ?_
  obtain ⟨g_11, hres⟩ := mi_g hres
  refine va_zald (D := (dC, dI)) (cl := vwCl) hx hb hK hP 12 2 rfl rfl g_11 dX8_all_138 ?_
  refine lv_if_ne (tgt := 145) hx hb dX8_all_139 (by decide) (fun c_12 => ?_) (fun c_12 => ?_)
  · replace hres := mi_n c_12 hres
    refine lv_aload_n hx hb dX8_all_145 rfl (lv_at hl 0 rfl) ?_
    refine va_get (D := (dC, dI)) (ci := 8) (v := .ref (q 14)) (C := RX8) (T := TX8) (N := 26) hx hb hts hwX8_all_RX8 hown hK hP 0 rfl rfl 17 (by decide) (hts _ mwX8_all_3) (fun _ h9 => h9) rfl dX8_all_146 ?_
    refine lv_iload_n hx hb dX8_all_149 rfl (lv_at hl 3 rfl) ?_
    refine lv_dup2_11 hx hb dX8_all_150 rfl rfl ?_
    refine va_iald (D := (dC, dI)) (cl := vwCl) hx hb hK hP 14 0 rfl rfl g_11 dX8_all_151 ?_
    refine lv_iconst (v := (1 : Int32)) hx hb dX8_all_152 (by decide) ?_
    refine lv_iadd hx hb dX8_all_153 ?_
    refine va_iast (D := (dC, dI)) (cl := vwCl) hx hb hK hP hD hS 14 0 rfl rfl g_11 dX8_all_154 (fun H locs hP hD hS => ?_)
    have hP : va_P (dC, dI) vwCl (wM q cI cJ cZ zn zm zj zf zr zw zs zfr zto zk zt za zb zq zl zv zo zu (upd zov (Int32.toNatClampNeg x3) ((zov (Int32.toNatClampNeg x3)) + (1 : Int32))) ztu zsh zle zmo zc zlo zhi) H := hP
    have hD : va_D A (wM q cI cJ cZ zn zm zj zf zr zw zs zfr zto zk zt za zb zq zl zv zo zu (upd zov (Int32.toNatClampNeg x3) ((zov (Int32.toNatClampNeg x3)) + (1 : Int32))) ztu zsh zle zmo zc zlo zhi) := hD
    refine lv_aload_n hx hb dX8_all_155 rfl (lv_at hl 0 rfl) ?_
    refine va_get (D := (dC, dI)) (ci := 8) (v := .ref (q 16)) (C := RX8) (T := TX8) (N := 26) hx hb hts hwX8_all_RX8 hown hK hP 0 rfl rfl 19 (by decide) (hts _ mwX8_all_5) (fun _ h9 => h9) rfl dX8_all_156 ?_
    refine lv_iload_n hx hb dX8_all_159 rfl (lv_at hl 3 rfl) ?_
    refine va_iald (D := (dC, dI)) (cl := vwCl) hx hb hK hP 16 0 rfl rfl g_11 dX8_all_160 ?_
    refine lv_iconst (v := (-1 : Int32)) hx hb dX8_all_161 (by decide) ?_
    refine lv_icmp_ne (tgt := 191) hx hb dX8_all_162 (by decide) (fun c_13 => ?_) (fun c_13 => ?_)
    · replace hres := mi_n c_13 hres
      refine lv_iinc (v := x3 + (1 : Int32)) (lv' := [(3, .int (x3 + (1 : Int32))), (0, .ref (q 0)), (1, .int x1), (2, .int x2)]) hx hb dX8_all_191 hl (k := 3) rfl rfl (by decide) rfl (fun ls hl => ?_)
      refine lv_goto (tgt := 106) hx hb dX8_all_194 (by decide) ?_
      exact hk106 zj zf zr zl zv zo zu (upd zov (Int32.toNatClampNeg x3) ((zov (Int32.toNatClampNeg x3)) + (1 : Int32))) ztu zsh x1 x2 (x3 + (1 : Int32)) _ _ ls hP hD hS (lv_sub hl [1, 2, 3, 0] rfl) hres
    · replace hres := mi_p c_13 hres
      refine lv_aload_n hx hb dX8_all_165 rfl (lv_at hl 0 rfl) ?_
      refine va_get (D := (dC, dI)) (ci := 8) (v := .ref (q 16)) (C := RX8) (T := TX8) (N := 26) hx hb hts hwX8_all_RX8 hown hK hP 0 rfl rfl 19 (by decide) (hts _ mwX8_all_5) (fun _ h9 => h9) rfl dX8_all_166 ?_
      refine lv_iload_n hx hb dX8_all_169 rfl (lv_at hl 3 rfl) ?_
      refine lv_bipush (v := (32 : Int32)) hx hb dX8_all_170 (by decide) ?_
      refine lv_iload_n hx hb dX8_all_172 rfl (lv_at hl 1 rfl) ?_
      refine lv_aload_n hx hb dX8_all_173 rfl (lv_at hl 0 rfl) ?_
      refine va_get (D := (dC, dI)) (ci := 8) (v := .ref (q 3)) (C := RX8) (T := TX8) (N := 26) hx hb hts hwX8_all_RX8 hown hK hP 0 rfl rfl 2 (by decide) (hts _ mwX8_all_2) (fun _ h9 => h9) rfl dX8_all_174 ?_
      refine lv_iconst (v := (0 : Int32)) hx hb dX8_all_177 (by decide) ?_
      refine va_iald (D := (dC, dI)) (cl := vwCl) hx hb hK hP 3 0 rfl rfl (show ¬ ((0 : Int32) < 0 ∨ 2 ≤ Int32.toNatClampNeg (0 : Int32)) by decide) dX8_all_178 ?_
      refine lv_isub hx hb dX8_all_179 ?_
      refine lv_imul hx hb dX8_all_180 ?_
      refine lv_iload_n hx hb dX8_all_181 rfl (lv_at hl 2 rfl) ?_
      refine lv_iadd hx hb dX8_all_182 ?_
      refine lv_aload_n hx hb dX8_all_183 rfl (lv_at hl 0 rfl) ?_
      refine va_get (D := (dC, dI)) (ci := 8) (v := .ref (q 3)) (C := RX8) (T := TX8) (N := 26) hx hb hts hwX8_all_RX8 hown hK hP 0 rfl rfl 2 (by decide) (hts _ mwX8_all_2) (fun _ h9 => h9) rfl dX8_all_184 ?_
      refine lv_iconst (v := (1 : Int32)) hx hb dX8_all_187 (by decide) ?_
      refine va_iald (D := (dC, dI)) (cl := vwCl) hx hb hK hP 3 0 rfl rfl (show ¬ ((1 : Int32) < 0 ∨ 2 ≤ Int32.toNatClampNeg (1 : Int32)) by decide) dX8_all_188 ?_
      refine lv_isub hx hb dX8_all_189 ?_
      refine va_iast (D := (dC, dI)) (cl := vwCl) hx hb hK hP hD hS 16 0 rfl rfl g_11 dX8_all_190 (fun H locs hP hD hS => ?_)
      have hP : va_P (dC, dI) vwCl (wM q cI cJ cZ zn zm zj zf zr zw zs zfr zto zk zt za zb zq zl zv zo zu (upd zov (Int32.toNatClampNeg x3) ((zov (Int32.toNatClampNeg x3)) + (1 : Int32))) ztu (upd zsh (Int32.toNatClampNeg x3) ((((32 : Int32) * (x1 - (zfr (Int32.toNatClampNeg (0 : Int32))))) + x2) - (zfr (Int32.toNatClampNeg (1 : Int32))))) zle zmo zc zlo zhi) H := hP
      have hD : va_D A (wM q cI cJ cZ zn zm zj zf zr zw zs zfr zto zk zt za zb zq zl zv zo zu (upd zov (Int32.toNatClampNeg x3) ((zov (Int32.toNatClampNeg x3)) + (1 : Int32))) ztu (upd zsh (Int32.toNatClampNeg x3) ((((32 : Int32) * (x1 - (zfr (Int32.toNatClampNeg (0 : Int32))))) + x2) - (zfr (Int32.toNatClampNeg (1 : Int32))))) zle zmo zc zlo zhi) := hD
      refine lv_iinc (v := x3 + (1 : Int32)) (lv' := [(3, .int (x3 + (1 : Int32))), (0, .ref (q 0)), (1, .int x1), (2, .int x2)]) hx hb dX8_all_191 hl (k := 3) rfl rfl (by decide) rfl (fun ls hl => ?_)
      refine lv_goto (tgt := 106) hx hb dX8_all_194 (by decide) ?_
      exact hk106 zj zf zr zl zv zo zu (upd zov (Int32.toNatClampNeg x3) ((zov (Int32.toNatClampNeg x3)) + (1 : Int32))) ztu (upd zsh (Int32.toNatClampNeg x3) ((((32 : Int32) * (x1 - (zfr (Int32.toNatClampNeg (0 : Int32))))) + x2) - (zfr (Int32.toNatClampNeg (1 : Int32))))) x1 x2 (x3 + (1 : Int32)) _ _ ls hP hD hS (lv_sub hl [1, 2, 3, 0] rfl) hres
  · replace hres := mi_p c_12 hres
    refine lv_goto (tgt := 191) hx hb dX8_all_142 (by decide) ?_
    refine lv_iinc (v := x3 + (1 : Int32)) (lv' := [(3, .int (x3 + (1 : Int32))), (0, .ref (q 0)), (1, .int x1), (2, .int x2)]) hx hb dX8_all_191 hl (k := 3) rfl rfl (by decide) rfl (fun ls hl => ?_)
    refine lv_goto (tgt := 106) hx hb dX8_all_194 (by decide) ?_
    exact hk106 zj zf zr zl zv zo zu zov ztu zsh x1 x2 (x3 + (1 : Int32)) _ _ ls hP hD hS (lv_sub hl [1, 2, 3, 0] rfl) hres
set_option maxHeartbeats 4000000 in
set_option maxRecDepth 100000 in
theorem zX8_all_L106 {p : Program} {l : Launch} {e : Env} {s : State} {m : MethodId} {args : Array Value} {below : List Frame} {meth : Method} {c : Code} {A : Nat → Prop} {dC : Nat → ClassId} {dI : Nat → Nat → Nat} {q : Nat → Nat} {cI cJ cZ : ClassId} {zn : Int32} {zm : Int32} {zw : Nat → Int32} {zs : Nat → Int32} {zfr : Nat → Int32} {zto : Nat → Int32} {zk : Nat → Int32} {zt : Nat → Int32} {za : Nat → Int32} {zb : Nat → Int32} {zq : Nat → Int32} {zle : Nat → Int64} {zmo : Nat → Int64} {zc : Nat → Int32} {zlo : Nat → Int64} {zhi : Nat → Int64}  (C0 : Cx p s m args meth c cX8_all 4 none RX8 wsX8_all A (dC, dI) (ty3 cI cJ cZ)) {RES : (Int32) × (Int32) × (Int32) × (Nat → Int32) × (Nat → Int64) × (Nat → Int32) × (Nat → Int32) × (Nat → Int32) × (Nat → Int32) × (Nat → Int32)} {k53 : (Int32) → (Int32) → (Int32) → (Nat → Int32) → (Nat → Int64) → (Nat → Int32) → (Nat → Int32) → (Nat → Int32) → (Nat → Int32) → (Nat → Int32) → (Int32) → Option ((Int32) × (Int32) × (Int32) × (Nat → Int32) × (Nat → Int64) × (Nat → Int32) × (Nat → Int32) × (Nat → Int32) × (Nat → Int32) × (Nat → Int32))} (hk53 : iX8_all_L53 p l e s m args below meth c A dC dI q cI cJ cZ zn zm zw zs zfr zto zk zt za zb zq zle zmo zc zlo zhi RES k53) {k70 : (Int32) → (Int32) → (Int32) → (Nat → Int32) → (Nat → Int64) → (Nat → Int32) → (Nat → Int32) → (Nat → Int32) → (Nat → Int32) → (Nat → Int32) → (Int32) → (Int32) → Option ((Int32) × (Int32) × (Int32) × (Nat → Int32) × (Nat → Int64) × (Nat → Int32) × (Nat → Int32) × (Nat → Int32) × (Nat → Int32) × (Nat → Int32))} (hk70 : iX8_all_L70 p l e s m args below meth c A dC dI q cI cJ cZ zn zm zw zs zfr zto zk zt za zb zq zle zmo zc zlo zhi RES k70) : ∀ n : Nat, iX8_all_L106 p l e s m args below meth c A dC dI q cI cJ cZ zn zm zw zs zfr zto zk zt za zb zq zle zmo zc zlo zhi RES (mX8_all_L106 zn zm zw zs zfr zto zk zt za zb k53 k70 n) := by
  have C1 := C0
  obtain ⟨hx, hb, hr, hml, hown, hts, hlocks, hN, hK, hA⟩ := C1
  intro n
  induction n with
  | zero =>
    intro zj zf zr zl zv zo zu zov ztu zsh x1 x2 x3 H locs ls hP hD hS hl hres
    exact mi_0 hres
  | succ n ih =>
    intro zj zf zr zl zv zo zu zov ztu zsh x1 x2 x3 H locs ls hP hD hS hl hres
    rw [mX8_all_L106] at hres
    refine lv_iload_n hx hb dX8_all_106 rfl (lv_at hl 3 rfl) ?_
    refine lv_aload_n hx hb dX8_all_107 rfl (lv_at hl 0 rfl) ?_
    refine va_get (D := (dC, dI)) (ci := 8) (v := .int zn) (C := RX8) (T := TX8) (N := 26) hx hb hts hwX8_all_RX8 hown hK hP 0 rfl rfl 9 (by decide) (hts _ mwX8_all_1) (fun _ h9 => h9) rfl dX8_all_108 ?_
    refine lv_icmp_ge (tgt := 197) hx hb dX8_all_111 (by decide) (fun c_8 => ?_) (fun c_8 => ?_)
    · replace hres := mi_p c_8 hres
      refine lv_iinc (v := x2 + (1 : Int32)) (lv' := [(2, .int (x2 + (1 : Int32))), (0, .ref (q 0)), (1, .int x1), (3, .int x3)]) hx hb dX8_all_197 hl (k := 2) rfl rfl (by decide) rfl (fun ls hl => ?_)
      refine lv_goto (tgt := 70) hx hb dX8_all_200 (by decide) ?_
      exact hk70 zj zf zr zl zv zo zu zov ztu zsh x1 (x2 + (1 : Int32)) _ _ ls hP hD hS (lv_sub hl [1, 2, 0] rfl) hres
    · replace hres := mi_n c_8 hres
      refine lv_aload_n hx hb dX8_all_114 rfl (lv_at hl 0 rfl) ?_
      refine va_get (D := (dC, dI)) (ci := 8) (v := .ref (q 13)) (C := RX8) (T := TX8) (N := 26) hx hb hts hwX8_all_RX8 hown hK hP 0 rfl rfl 15 (by decide) (hts _ mwX8_all_8) (fun _ h9 => h9) rfl dX8_all_115 ?_
      refine lv_iload_n hx hb dX8_all_118 rfl (lv_at hl 3 rfl) ?_
      obtain ⟨g_9, hres⟩ := mi_g hres
      refine va_zald (D := (dC, dI)) (cl := vwCl) hx hb hK hP 13 2 rfl rfl g_9 dX8_all_119 ?_
      refine lv_if_eq (tgt := 133) hx hb dX8_all_120 (by decide) (fun c_10 => ?_) (fun c_10 => ?_)
      · replace hres := mi_p c_10 hres
        exact zX8_all_L133 C0 hk53 hk70 ih zj zf zr zl zv zo zu zov ztu zsh x1 x2 x3 _ _ ls hP hD hS (lv_sub hl [0, 1, 2, 3] rfl) hres
      · replace hres := mi_n c_10 hres
        refine lv_aload_n hx hb dX8_all_123 rfl (lv_at hl 0 rfl) ?_
        refine va_get (D := (dC, dI)) (ci := 8) (v := .ref (q 15)) (C := RX8) (T := TX8) (N := 26) hx hb hts hwX8_all_RX8 hown hK hP 0 rfl rfl 18 (by decide) (hts _ mwX8_all_4) (fun _ h9 => h9) rfl dX8_all_124 ?_
        refine lv_iload_n hx hb dX8_all_127 rfl (lv_at hl 3 rfl) ?_
        refine lv_dup2_11 hx hb dX8_all_128 rfl rfl ?_
        refine va_iald (D := (dC, dI)) (cl := vwCl) hx hb hK hP 15 0 rfl rfl g_9 dX8_all_129 ?_
        refine lv_iconst (v := (1 : Int32)) hx hb dX8_all_130 (by decide) ?_
        refine lv_iadd hx hb dX8_all_131 ?_
        refine va_iast (D := (dC, dI)) (cl := vwCl) hx hb hK hP hD hS 15 0 rfl rfl g_9 dX8_all_132 (fun H locs hP hD hS => ?_)
        have hP : va_P (dC, dI) vwCl (wM q cI cJ cZ zn zm zj zf zr zw zs zfr zto zk zt za zb zq zl zv zo zu zov (upd ztu (Int32.toNatClampNeg x3) ((ztu (Int32.toNatClampNeg x3)) + (1 : Int32))) zsh zle zmo zc zlo zhi) H := hP
        have hD : va_D A (wM q cI cJ cZ zn zm zj zf zr zw zs zfr zto zk zt za zb zq zl zv zo zu zov (upd ztu (Int32.toNatClampNeg x3) ((ztu (Int32.toNatClampNeg x3)) + (1 : Int32))) zsh zle zmo zc zlo zhi) := hD
        exact zX8_all_L133 C0 hk53 hk70 ih zj zf zr zl zv zo zu zov (upd ztu (Int32.toNatClampNeg x3) ((ztu (Int32.toNatClampNeg x3)) + (1 : Int32))) zsh x1 x2 x3 _ _ ls hP hD hS (lv_sub hl [0, 1, 2, 3] rfl) hres
set_option maxHeartbeats 4000000 in
set_option maxRecDepth 100000 in
theorem zX8_all_L70 {p : Program} {l : Launch} {e : Env} {s : State} {m : MethodId} {args : Array Value} {below : List Frame} {meth : Method} {c : Code} {A : Nat → Prop} {dC : Nat → ClassId} {dI : Nat → Nat → Nat} {q : Nat → Nat} {cI cJ cZ : ClassId} {zn : Int32} {zm : Int32} {zw : Nat → Int32} {zs : Nat → Int32} {zfr : Nat → Int32} {zto : Nat → Int32} {zk : Nat → Int32} {zt : Nat → Int32} {za : Nat → Int32} {zb : Nat → Int32} {zq : Nat → Int32} {zle : Nat → Int64} {zmo : Nat → Int64} {zc : Nat → Int32} {zlo : Nat → Int64} {zhi : Nat → Int64}  (C0 : Cx p s m args meth c cX8_all 4 none RX8 wsX8_all A (dC, dI) (ty3 cI cJ cZ)) {RES : (Int32) × (Int32) × (Int32) × (Nat → Int32) × (Nat → Int64) × (Nat → Int32) × (Nat → Int32) × (Nat → Int32) × (Nat → Int32) × (Nat → Int32)} {k53 : (Int32) → (Int32) → (Int32) → (Nat → Int32) → (Nat → Int64) → (Nat → Int32) → (Nat → Int32) → (Nat → Int32) → (Nat → Int32) → (Nat → Int32) → (Int32) → Option ((Int32) × (Int32) × (Int32) × (Nat → Int32) × (Nat → Int64) × (Nat → Int32) × (Nat → Int32) × (Nat → Int32) × (Nat → Int32) × (Nat → Int32))} (hk53 : iX8_all_L53 p l e s m args below meth c A dC dI q cI cJ cZ zn zm zw zs zfr zto zk zt za zb zq zle zmo zc zlo zhi RES k53) : ∀ n : Nat, iX8_all_L70 p l e s m args below meth c A dC dI q cI cJ cZ zn zm zw zs zfr zto zk zt za zb zq zle zmo zc zlo zhi RES (mX8_all_L70 zn zm zw zs zfr zto zk zt za zb k53 n) := by
  have C1 := C0
  obtain ⟨hx, hb, hr, hml, hown, hts, hlocks, hN, hK, hA⟩ := C1
  intro n
  induction n with
  | zero =>
    intro zj zf zr zl zv zo zu zov ztu zsh x1 x2 H locs ls hP hD hS hl hres
    exact mi_0 hres
  | succ n ih =>
    intro zj zf zr zl zv zo zu zov ztu zsh x1 x2 H locs ls hP hD hS hl hres
    rw [mX8_all_L70] at hres
    refine lv_iload_n hx hb dX8_all_70 rfl (lv_at hl 2 rfl) ?_
    refine lv_aload_n hx hb dX8_all_71 rfl (lv_at hl 0 rfl) ?_
    refine va_get (D := (dC, dI)) (ci := 8) (v := .ref (q 4)) (C := RX8) (T := TX8) (N := 26) hx hb hts hwX8_all_RX8 hown hK hP 0 rfl rfl 3 (by decide) (hts _ mwX8_all_6) (fun _ h9 => h9) rfl dX8_all_72 ?_
    refine lv_iconst (v := (1 : Int32)) hx hb dX8_all_75 (by decide) ?_
    refine va_iald (D := (dC, dI)) (cl := vwCl) hx hb hK hP 4 0 rfl rfl (show ¬ ((1 : Int32) < 0 ∨ 2 ≤ Int32.toNatClampNeg (1 : Int32)) by decide) dX8_all_76 ?_
    refine lv_icmp_gt (tgt := 203) hx hb dX8_all_77 (by decide) (fun c_5 => ?_) (fun c_5 => ?_)
    · replace hres := mi_p c_5 hres
      refine lv_iinc (v := x1 + (1 : Int32)) (lv' := [(1, .int (x1 + (1 : Int32))), (0, .ref (q 0)), (2, .int x2)]) hx hb dX8_all_203 hl (k := 1) rfl rfl (by decide) rfl (fun ls hl => ?_)
      refine lv_goto (tgt := 53) hx hb dX8_all_206 (by decide) ?_
      exact hk53 zj zf zr zl zv zo zu zov ztu zsh (x1 + (1 : Int32)) _ _ ls hP hD hS (lv_sub hl [1, 0] rfl) hres
    · replace hres := mi_n c_5 hres
      refine lv_aload_n hx hb dX8_all_80 rfl (lv_at hl 0 rfl) ?_
      refine lv_iload_n hx hb dX8_all_81 rfl (lv_at hl 1 rfl) ?_
      refine lv_iload_n hx hb dX8_all_82 rfl (lv_at hl 2 rfl) ?_
      obtain ⟨u6, hu6, hres⟩ := mi_b hres
      refine call_V C0 (run_V C0 (rest := []) (kX8_runs l dC dI q cI cJ cZ zn zm zj zf zr zw zs zfr zto zk zt za zb zq zl zv zo zu zov ztu zsh zle zmo zc zlo zhi  x1 x2 u6 hu6 _) (cwV 2 hts gX8_all_X8_runs rfl rfl rfl (by decide +kernel) ⟨by decide, by decide⟩) hP hD (ci := 8) (q0 := 0) rfl rfl rfl hl.1 rfl (Nat.le_of_ble_eq_true rfl) dX8_all_83) hD hS (fun H locs hP hD hS => ?_)
      refine lv_aload_n hx hb dX8_all_86 rfl (lv_at hl 0 rfl) ?_
      refine va_get (D := (dC, dI)) (ci := 8) (v := .int u6.1) (C := RX8) (T := TX8) (N := 26) hx hb hts hwX8_all_RX8 hown hK hP 0 rfl rfl 16 (by decide) (hts _ mwX8_all_7) (fun _ h9 => h9) rfl dX8_all_87 ?_
      refine lv_iconst (v := (-1 : Int32)) hx hb dX8_all_90 (by decide) ?_
      refine lv_icmp_eq (tgt := 104) hx hb dX8_all_91 (by decide) (fun c_7 => ?_) (fun c_7 => ?_)
      · replace hres := mi_p c_7 hres
        refine lv_iconst (v := (0 : Int32)) hx hb dX8_all_104 (by decide) ?_
        refine lv_istore_n (lv' := [(3, .int (0 : Int32)), (0, .ref (q 0)), (1, .int x1), (2, .int x2)]) hx hb dX8_all_105 rfl hl (by decide) rfl (fun ls hl => ?_)
        exact zX8_all_L106 C0 hk53 ih FU zj u6.1 zr zl u6.2.1 u6.2.2.1 u6.2.2.2 zov ztu zsh x1 x2 (0 : Int32) _ _ ls hP hD hS (lv_sub hl [1, 2, 3, 0] rfl) hres
      · replace hres := mi_n c_7 hres
        refine lv_aload_n hx hb dX8_all_94 rfl (lv_at hl 0 rfl) ?_
        refine lv_dup hx hb dX8_all_95 rfl ?_
        refine va_get (D := (dC, dI)) (ci := 8) (v := .int zr) (C := RX8) (T := TX8) (N := 26) hx hb hts hwX8_all_RX8 hown hK hP 0 rfl rfl 20 (by decide) (hts _ mwX8_all_0) (fun _ h9 => h9) rfl dX8_all_96 ?_
        refine lv_iconst (v := (1 : Int32)) hx hb dX8_all_99 (by decide) ?_
        refine lv_iadd hx hb dX8_all_100 ?_
        refine va_put (D := (dC, dI)) (ci := 8) (v := .int (zr + (1 : Int32))) (ty := .int) (C := RX8) (T := TX8) (N := 26) hx hb hts hwX8_all_RX8 tyX8 tyX8_ok nmX8 hown hK hP hD hS 0 rfl rfl 20 (by decide) (hts _ mwX8_all_0) (fun _ h9 => h9) rfl (by decide +kernel) rfl rfl (Nat.le_of_ble_eq_true rfl) dX8_all_101 (fun H locs hP hD hS => ?_)
        have hP : va_P (dC, dI) vwCl (wM q cI cJ cZ zn zm zj u6.1 (zr + (1 : Int32)) zw zs zfr zto zk zt za zb zq zl u6.2.1 u6.2.2.1 u6.2.2.2 zov ztu zsh zle zmo zc zlo zhi) H := hP
        have hD : va_D A (wM q cI cJ cZ zn zm zj u6.1 (zr + (1 : Int32)) zw zs zfr zto zk zt za zb zq zl u6.2.1 u6.2.2.1 u6.2.2.2 zov ztu zsh zle zmo zc zlo zhi) := hD
        refine lv_iconst (v := (0 : Int32)) hx hb dX8_all_104 (by decide) ?_
        refine lv_istore_n (lv' := [(3, .int (0 : Int32)), (0, .ref (q 0)), (1, .int x1), (2, .int x2)]) hx hb dX8_all_105 rfl hl (by decide) rfl (fun ls hl => ?_)
        exact zX8_all_L106 C0 hk53 ih FU zj u6.1 (zr + (1 : Int32)) zl u6.2.1 u6.2.2.1 u6.2.2.2 zov ztu zsh x1 x2 (0 : Int32) _ _ ls hP hD hS (lv_sub hl [1, 2, 3, 0] rfl) hres
set_option maxHeartbeats 4000000 in
set_option maxRecDepth 100000 in
theorem zX8_all_L53 {p : Program} {l : Launch} {e : Env} {s : State} {m : MethodId} {args : Array Value} {below : List Frame} {meth : Method} {c : Code} {A : Nat → Prop} {dC : Nat → ClassId} {dI : Nat → Nat → Nat} {q : Nat → Nat} {cI cJ cZ : ClassId} {zn : Int32} {zm : Int32} {zw : Nat → Int32} {zs : Nat → Int32} {zfr : Nat → Int32} {zto : Nat → Int32} {zk : Nat → Int32} {zt : Nat → Int32} {za : Nat → Int32} {zb : Nat → Int32} {zq : Nat → Int32} {zle : Nat → Int64} {zmo : Nat → Int64} {zc : Nat → Int32} {zlo : Nat → Int64} {zhi : Nat → Int64}  (C0 : Cx p s m args meth c cX8_all 4 none RX8 wsX8_all A (dC, dI) (ty3 cI cJ cZ)) {RES : (Int32) × (Int32) × (Int32) × (Nat → Int32) × (Nat → Int64) × (Nat → Int32) × (Nat → Int32) × (Nat → Int32) × (Nat → Int32) × (Nat → Int32)}  : ∀ n : Nat, iX8_all_L53 p l e s m args below meth c A dC dI q cI cJ cZ zn zm zw zs zfr zto zk zt za zb zq zle zmo zc zlo zhi RES (mX8_all_L53 zn zm zw zs zfr zto zk zt za zb n) := by
  have C1 := C0
  obtain ⟨hx, hb, hr, hml, hown, hts, hlocks, hN, hK, hA⟩ := C1
  intro n
  induction n with
  | zero =>
    intro zj zf zr zl zv zo zu zov ztu zsh x1 H locs ls hP hD hS hl hres
    exact mi_0 hres
  | succ n ih =>
    intro zj zf zr zl zv zo zu zov ztu zsh x1 H locs ls hP hD hS hl hres
    rw [mX8_all_L53] at hres
    refine lv_iload_n hx hb dX8_all_53 rfl (lv_at hl 1 rfl) ?_
    refine lv_aload_n hx hb dX8_all_54 rfl (lv_at hl 0 rfl) ?_
    refine va_get (D := (dC, dI)) (ci := 8) (v := .ref (q 4)) (C := RX8) (T := TX8) (N := 26) hx hb hts hwX8_all_RX8 hown hK hP 0 rfl rfl 3 (by decide) (hts _ mwX8_all_6) (fun _ h9 => h9) rfl dX8_all_55 ?_
    refine lv_iconst (v := (0 : Int32)) hx hb dX8_all_58 (by decide) ?_
    refine va_iald (D := (dC, dI)) (cl := vwCl) hx hb hK hP 4 0 rfl rfl (show ¬ ((0 : Int32) < 0 ∨ 2 ≤ Int32.toNatClampNeg (0 : Int32)) by decide) dX8_all_59 ?_
    refine lv_icmp_gt (tgt := 209) hx hb dX8_all_60 (by decide) (fun c_4 => ?_) (fun c_4 => ?_)
    · replace hres := mi_p c_4 hres
      obtain rfl := Option.some.inj hres
      exact ret_V C0 hP hD hS dX8_all_209
    · replace hres := mi_n c_4 hres
      refine lv_aload_n hx hb dX8_all_63 rfl (lv_at hl 0 rfl) ?_
      refine va_get (D := (dC, dI)) (ci := 8) (v := .ref (q 3)) (C := RX8) (T := TX8) (N := 26) hx hb hts hwX8_all_RX8 hown hK hP 0 rfl rfl 2 (by decide) (hts _ mwX8_all_2) (fun _ h9 => h9) rfl dX8_all_64 ?_
      refine lv_iconst (v := (1 : Int32)) hx hb dX8_all_67 (by decide) ?_
      refine va_iald (D := (dC, dI)) (cl := vwCl) hx hb hK hP 3 0 rfl rfl (show ¬ ((1 : Int32) < 0 ∨ 2 ≤ Int32.toNatClampNeg (1 : Int32)) by decide) dX8_all_68 ?_
      refine lv_istore_n (lv' := [(2, .int (zfr (Int32.toNatClampNeg (1 : Int32)))), (0, .ref (q 0)), (1, .int x1)]) hx hb dX8_all_69 rfl hl (by decide) rfl (fun ls hl => ?_)
      exact zX8_all_L70 C0 ih FU zj zf zr zl zv zo zu zov ztu zsh x1 (zfr (Int32.toNatClampNeg (1 : Int32))) _ _ ls hP hD hS (lv_sub hl [1, 2, 0] rfl) hres
set_option maxHeartbeats 4000000 in
set_option maxRecDepth 100000 in
theorem zX8_all_L11 {p : Program} {l : Launch} {e : Env} {s : State} {m : MethodId} {args : Array Value} {below : List Frame} {meth : Method} {c : Code} {A : Nat → Prop} {dC : Nat → ClassId} {dI : Nat → Nat → Nat} {q : Nat → Nat} {cI cJ cZ : ClassId} {zn : Int32} {zm : Int32} {zw : Nat → Int32} {zs : Nat → Int32} {zfr : Nat → Int32} {zto : Nat → Int32} {zk : Nat → Int32} {zt : Nat → Int32} {za : Nat → Int32} {zb : Nat → Int32} {zq : Nat → Int32} {zle : Nat → Int64} {zmo : Nat → Int64} {zc : Nat → Int32} {zlo : Nat → Int64} {zhi : Nat → Int64}  (C0 : Cx p s m args meth c cX8_all 4 none RX8 wsX8_all A (dC, dI) (ty3 cI cJ cZ)) {RES : (Int32) × (Int32) × (Int32) × (Nat → Int32) × (Nat → Int64) × (Nat → Int32) × (Nat → Int32) × (Nat → Int32) × (Nat → Int32) × (Nat → Int32)}  : ∀ n : Nat, iX8_all_L11 p l e s m args below meth c A dC dI q cI cJ cZ zn zm zw zs zfr zto zk zt za zb zq zle zmo zc zlo zhi RES (mX8_all_L11 zn zm zw zs zfr zto zk zt za zb n) := by
  have C1 := C0
  obtain ⟨hx, hb, hr, hml, hown, hts, hlocks, hN, hK, hA⟩ := C1
  intro n
  induction n with
  | zero =>
    intro zj zf zr zl zv zo zu zov ztu zsh x1 H locs ls hP hD hS hl hres
    exact mi_0 hres
  | succ n ih =>
    intro zj zf zr zl zv zo zu zov ztu zsh x1 H locs ls hP hD hS hl hres
    rw [mX8_all_L11] at hres
    refine lv_iload_n hx hb dX8_all_11 rfl (lv_at hl 1 rfl) ?_
    refine lv_aload_n hx hb dX8_all_12 rfl (lv_at hl 0 rfl) ?_
    refine va_get (D := (dC, dI)) (ci := 8) (v := .int zn) (C := RX8) (T := TX8) (N := 26) hx hb hts hwX8_all_RX8 hown hK hP 0 rfl rfl 9 (by decide) (hts _ mwX8_all_1) (fun _ h9 => h9) rfl dX8_all_13 ?_
    refine lv_icmp_ge (tgt := 46) hx hb dX8_all_16 (by decide) (fun c_2 => ?_) (fun c_2 => ?_)
    · replace hres := mi_p c_2 hres
      refine lv_aload_n hx hb dX8_all_46 rfl (lv_at hl 0 rfl) ?_
      refine va_get (D := (dC, dI)) (ci := 8) (v := .ref (q 3)) (C := RX8) (T := TX8) (N := 26) hx hb hts hwX8_all_RX8 hown hK hP 0 rfl rfl 2 (by decide) (hts _ mwX8_all_2) (fun _ h9 => h9) rfl dX8_all_47 ?_
      refine lv_iconst (v := (0 : Int32)) hx hb dX8_all_50 (by decide) ?_
      refine va_iald (D := (dC, dI)) (cl := vwCl) hx hb hK hP 3 0 rfl rfl (show ¬ ((0 : Int32) < 0 ∨ 2 ≤ Int32.toNatClampNeg (0 : Int32)) by decide) dX8_all_51 ?_
      refine lv_istore_n (lv' := [(1, .int (zfr (Int32.toNatClampNeg (0 : Int32)))), (0, .ref (q 0))]) hx hb dX8_all_52 rfl hl (by decide) rfl (fun ls hl => ?_)
      exact zX8_all_L53 C0  FU zj zf zr zl zv zo zu zov ztu zsh (zfr (Int32.toNatClampNeg (0 : Int32))) _ _ ls hP hD hS (lv_sub hl [1, 0] rfl) hres
    · replace hres := mi_n c_2 hres
      refine lv_aload_n hx hb dX8_all_19 rfl (lv_at hl 0 rfl) ?_
      refine va_get (D := (dC, dI)) (ci := 8) (v := .ref (q 14)) (C := RX8) (T := TX8) (N := 26) hx hb hts hwX8_all_RX8 hown hK hP 0 rfl rfl 17 (by decide) (hts _ mwX8_all_3) (fun _ h9 => h9) rfl dX8_all_20 ?_
      refine lv_iload_n hx hb dX8_all_23 rfl (lv_at hl 1 rfl) ?_
      refine lv_iconst (v := (0 : Int32)) hx hb dX8_all_24 (by decide) ?_
      obtain ⟨g_3, hres⟩ := mi_g hres
      refine va_iast (D := (dC, dI)) (cl := vwCl) hx hb hK hP hD hS 14 0 rfl rfl g_3 dX8_all_25 (fun H locs hP hD hS => ?_)
      have hP : va_P (dC, dI) vwCl (wM q cI cJ cZ zn zm zj zf zr zw zs zfr zto zk zt za zb zq zl zv zo zu (upd zov (Int32.toNatClampNeg x1) (0 : Int32)) ztu zsh zle zmo zc zlo zhi) H := hP
      have hD : va_D A (wM q cI cJ cZ zn zm zj zf zr zw zs zfr zto zk zt za zb zq zl zv zo zu (upd zov (Int32.toNatClampNeg x1) (0 : Int32)) ztu zsh zle zmo zc zlo zhi) := hD
      refine lv_aload_n hx hb dX8_all_26 rfl (lv_at hl 0 rfl) ?_
      refine va_get (D := (dC, dI)) (ci := 8) (v := .ref (q 15)) (C := RX8) (T := TX8) (N := 26) hx hb hts hwX8_all_RX8 hown hK hP 0 rfl rfl 18 (by decide) (hts _ mwX8_all_4) (fun _ h9 => h9) rfl dX8_all_27 ?_
      refine lv_iload_n hx hb dX8_all_30 rfl (lv_at hl 1 rfl) ?_
      refine lv_iconst (v := (0 : Int32)) hx hb dX8_all_31 (by decide) ?_
      refine va_iast (D := (dC, dI)) (cl := vwCl) hx hb hK hP hD hS 15 0 rfl rfl g_3 dX8_all_32 (fun H locs hP hD hS => ?_)
      have hP : va_P (dC, dI) vwCl (wM q cI cJ cZ zn zm zj zf zr zw zs zfr zto zk zt za zb zq zl zv zo zu (upd zov (Int32.toNatClampNeg x1) (0 : Int32)) (upd ztu (Int32.toNatClampNeg x1) (0 : Int32)) zsh zle zmo zc zlo zhi) H := hP
      have hD : va_D A (wM q cI cJ cZ zn zm zj zf zr zw zs zfr zto zk zt za zb zq zl zv zo zu (upd zov (Int32.toNatClampNeg x1) (0 : Int32)) (upd ztu (Int32.toNatClampNeg x1) (0 : Int32)) zsh zle zmo zc zlo zhi) := hD
      refine lv_aload_n hx hb dX8_all_33 rfl (lv_at hl 0 rfl) ?_
      refine va_get (D := (dC, dI)) (ci := 8) (v := .ref (q 16)) (C := RX8) (T := TX8) (N := 26) hx hb hts hwX8_all_RX8 hown hK hP 0 rfl rfl 19 (by decide) (hts _ mwX8_all_5) (fun _ h9 => h9) rfl dX8_all_34 ?_
      refine lv_iload_n hx hb dX8_all_37 rfl (lv_at hl 1 rfl) ?_
      refine lv_iconst (v := (-1 : Int32)) hx hb dX8_all_38 (by decide) ?_
      refine va_iast (D := (dC, dI)) (cl := vwCl) hx hb hK hP hD hS 16 0 rfl rfl g_3 dX8_all_39 (fun H locs hP hD hS => ?_)
      have hP : va_P (dC, dI) vwCl (wM q cI cJ cZ zn zm zj zf zr zw zs zfr zto zk zt za zb zq zl zv zo zu (upd zov (Int32.toNatClampNeg x1) (0 : Int32)) (upd ztu (Int32.toNatClampNeg x1) (0 : Int32)) (upd zsh (Int32.toNatClampNeg x1) (-1 : Int32)) zle zmo zc zlo zhi) H := hP
      have hD : va_D A (wM q cI cJ cZ zn zm zj zf zr zw zs zfr zto zk zt za zb zq zl zv zo zu (upd zov (Int32.toNatClampNeg x1) (0 : Int32)) (upd ztu (Int32.toNatClampNeg x1) (0 : Int32)) (upd zsh (Int32.toNatClampNeg x1) (-1 : Int32)) zle zmo zc zlo zhi) := hD
      refine lv_iinc (v := x1 + (1 : Int32)) (lv' := [(1, .int (x1 + (1 : Int32))), (0, .ref (q 0))]) hx hb dX8_all_40 hl (k := 1) rfl rfl (by decide) rfl (fun ls hl => ?_)
      refine lv_goto (tgt := 11) hx hb dX8_all_43 (by decide) ?_
      exact ih zj zf zr zl zv zo zu (upd zov (Int32.toNatClampNeg x1) (0 : Int32)) (upd ztu (Int32.toNatClampNeg x1) (0 : Int32)) (upd zsh (Int32.toNatClampNeg x1) (-1 : Int32)) (x1 + (1 : Int32)) _ _ ls hP hD hS (lv_sub hl [1, 0] rfl) hres
set_option maxHeartbeats 4000000 in
set_option maxRecDepth 100000 in
theorem kX8_all (l : Launch) (dC : Nat → ClassId) (dI : Nat → Nat → Nat) (q : Nat → Nat) (cI cJ cZ : ClassId) (zn : Int32) (zm : Int32) (zj : Int32) (zf : Int32) (zr : Int32) (zw : Nat → Int32) (zs : Nat → Int32) (zfr : Nat → Int32) (zto : Nat → Int32) (zk : Nat → Int32) (zt : Nat → Int32) (za : Nat → Int32) (zb : Nat → Int32) (zq : Nat → Int32) (zl : Nat → Int32) (zv : Nat → Int64) (zo : Nat → Int32) (zu : Nat → Int32) (zov : Nat → Int32) (ztu : Nat → Int32) (zsh : Nat → Int32) (zle : Nat → Int64) (zmo : Nat → Int64) (zc : Nat → Int32) (zlo : Nat → Int64) (zhi : Nat → Int64)  (RES : (Int32) × (Int32) × (Int32) × (Nat → Int32) × (Nat → Int64) × (Nat → Int32) × (Nat → Int32) × (Nat → Int32) × (Nat → Int32) × (Nat → Int32)) (hres : mX8_all zn zm zj zf zr zw zs zfr zto zk zt za zb zl zv zo zu zov ztu zsh = some RES) : CtV l yX8_all wsX8_all rmX8_all (dC, dI) (ty3 cI cJ cZ) (wM q cI cJ cZ zn zm zj zf zr zw zs zfr zto zk zt za zb zq zl zv zo zu zov ztu zsh zle zmo zc zlo zhi) [.ref (q 0)] (wM q cI cJ cZ zn zm RES.1 RES.2.1 RES.2.2.1 zw zs zfr zto zk zt za zb zq RES.2.2.2.1 RES.2.2.2.2.1 RES.2.2.2.2.2.1 RES.2.2.2.2.2.2.1 RES.2.2.2.2.2.2.2.1 RES.2.2.2.2.2.2.2.2.1 RES.2.2.2.2.2.2.2.2.2 zle zmo zc zlo zhi) := by
  intro sz
  refine ct_entry (cc := cX8_all) (maxL := 4) (ret := none) (own := RX8) (by decide) rfl rfl (Nat.le_of_ble_eq_true rfl) (ll := [(0, .ref (q 0))]) rfl ?_
  intro p e s m args below meth c hsz C0 _ hP hD ls hl
  have C1 := C0
  obtain ⟨hx, hb, hr, hml, hown, hts, hlocks, hN, hK, hA⟩ := C1
  have hS : va_S (va_A (wM q cI cJ cZ zn zm zj zf zr zw zs zfr zto zk zt za zb zq zl zv zo zu zov ztu zsh zle zmo zc zlo zhi) sz) s.heap s.heap [] := va_S.rf
  generalize va_A (wM q cI cJ cZ zn zm zj zf zr zw zs zfr zto zk zt za zb zq zl zv zo zu zov ztu zsh zle zmo zc zlo zhi) sz = A at C0 hD hA hS ⊢
  show W p l e rmX8_all s m args below meth c s.heap [] 0 0 (QV below args s A (dC, dI) (ty3 cI cJ cZ) (wM q cI cJ cZ zn zm RES.1 RES.2.1 RES.2.2.1 zw zs zfr zto zk zt za zb zq RES.2.2.2.1 RES.2.2.2.2.1 RES.2.2.2.2.2.1 RES.2.2.2.2.2.2.1 RES.2.2.2.2.2.2.2.1 RES.2.2.2.2.2.2.2.2.1 RES.2.2.2.2.2.2.2.2.2 zle zmo zc zlo zhi)) (F0 m 0 ls [])
  unfold mX8_all at hres
  refine lv_aload_n hx hb dX8_all_0 rfl (lv_at hl 0 rfl) ?_
  obtain ⟨u1, hu1, hres⟩ := mi_b hres
  refine call_V C0 (run_V C0 (rest := []) (kX8_lays l dC dI q cI cJ cZ zn zm zj zf zr zw zs zfr zto zk zt za zb zq zl zv zo zu zov ztu zsh zle zmo zc zlo zhi   u1 hu1 _) (cwV 0 hts gX8_all_X8_lays rfl rfl rfl (by decide +kernel) ⟨by decide, by decide⟩) hP hD (ci := 8) (q0 := 0) rfl rfl rfl hl.1 rfl (Nat.le_of_ble_eq_true rfl) dX8_all_1) hD hS (fun H locs hP hD hS => ?_)
  refine lv_aload_n hx hb dX8_all_4 rfl (lv_at hl 0 rfl) ?_
  refine lv_iconst (v := (0 : Int32)) hx hb dX8_all_5 (by decide) ?_
  refine va_put (D := (dC, dI)) (ci := 8) (v := .int (0 : Int32)) (ty := .int) (C := RX8) (T := TX8) (N := 26) hx hb hts hwX8_all_RX8 tyX8 tyX8_ok nmX8 hown hK hP hD hS 0 rfl rfl 20 (by decide) (hts _ mwX8_all_0) (fun _ h9 => h9) rfl (by decide +kernel) rfl rfl (Nat.le_of_ble_eq_true rfl) dX8_all_6 (fun H locs hP hD hS => ?_)
  have hP : va_P (dC, dI) vwCl (wM q cI cJ cZ zn zm u1.1 zf (0 : Int32) zw zs zfr zto zk zt za zb zq u1.2 zv zo zu zov ztu zsh zle zmo zc zlo zhi) H := hP
  have hD : va_D A (wM q cI cJ cZ zn zm u1.1 zf (0 : Int32) zw zs zfr zto zk zt za zb zq u1.2 zv zo zu zov ztu zsh zle zmo zc zlo zhi) := hD
  refine lv_iconst (v := (0 : Int32)) hx hb dX8_all_9 (by decide) ?_
  refine lv_istore_n (lv' := [(1, .int (0 : Int32)), (0, .ref (q 0))]) hx hb dX8_all_10 rfl hl (by decide) rfl (fun ls hl => ?_)
  exact zX8_all_L11 C0  FU u1.1 zf (0 : Int32) u1.2 zv zo zu zov ztu zsh (0 : Int32) _ _ ls hP hD hS (lv_sub hl [1, 0] rfl) hres
/-! ### SumsOverModel.isRun(II)Z -/
set_option maxRecDepth 20000 in
theorem hwX8_isRun_RX8 : ∀ w ∈ u_ws RX8 TX8 26, w ∈ wsX8_isRun := by decide +kernel
theorem mwX8_isRun_0 : (.fieldLink RX8 17 "SumsOverModel" "from" "[I" : Cond) ∈ wsX8_isRun := by decide +kernel
theorem mwX8_isRun_1 : (.fieldLink RX8 20 "SumsOverModel" "to" "[I" : Cond) ∈ wsX8_isRun := by decide +kernel
def rmX8_isRun : Room := { frames := 1, cells := 0, slots := 0, locals := 25 }
set_option maxHeartbeats 4000000 in
set_option maxRecDepth 100000 in
theorem kX8_isRun (l : Launch) (dC : Nat → ClassId) (dI : Nat → Nat → Nat) (q : Nat → Nat) (cI cJ cZ : ClassId) (zn : Int32) (zm : Int32) (zj : Int32) (zf : Int32) (zr : Int32) (zw : Nat → Int32) (zs : Nat → Int32) (zfr : Nat → Int32) (zto : Nat → Int32) (zk : Nat → Int32) (zt : Nat → Int32) (za : Nat → Int32) (zb : Nat → Int32) (zq : Nat → Int32) (zl : Nat → Int32) (zv : Nat → Int64) (zo : Nat → Int32) (zu : Nat → Int32) (zov : Nat → Int32) (ztu : Nat → Int32) (zsh : Nat → Int32) (zle : Nat → Int64) (zmo : Nat → Int64) (zc : Nat → Int32) (zlo : Nat → Int64) (zhi : Nat → Int64) (x1 : Int32) (x2 : Int32) (RES : Int32) (hres : mX8_isRun zfr zto x1 x2 = some RES) : CtI l yX8_isRun wsX8_isRun rmX8_isRun (dC, dI) (ty3 cI cJ cZ) (wM q cI cJ cZ zn zm zj zf zr zw zs zfr zto zk zt za zb zq zl zv zo zu zov ztu zsh zle zmo zc zlo zhi) [.ref (q 0), .int x1, .int x2] RES (wM q cI cJ cZ zn zm zj zf zr zw zs zfr zto zk zt za zb zq zl zv zo zu zov ztu zsh zle zmo zc zlo zhi) := by
  intro sz
  refine ct_entry (cc := cX8_isRun) (maxL := 3) (ret := some .boolean) (own := RX8) (by decide) rfl rfl (Nat.le_of_ble_eq_true rfl) (ll := [(0, .ref (q 0)), (1, .int x1), (2, .int x2)]) rfl ?_
  intro p e s m args below meth c hsz C0 _ hP hD ls hl
  have C1 := C0
  obtain ⟨hx, hb, hr, hml, hown, hts, hlocks, hN, hK, hA⟩ := C1
  have hS : va_S (va_A (wM q cI cJ cZ zn zm zj zf zr zw zs zfr zto zk zt za zb zq zl zv zo zu zov ztu zsh zle zmo zc zlo zhi) sz) s.heap s.heap [] := va_S.rf
  generalize va_A (wM q cI cJ cZ zn zm zj zf zr zw zs zfr zto zk zt za zb zq zl zv zo zu zov ztu zsh zle zmo zc zlo zhi) sz = A at C0 hD hA hS ⊢
  show W p l e rmX8_isRun s m args below meth c s.heap [] 0 0 (QI below args s A (dC, dI) (ty3 cI cJ cZ) RES (wM q cI cJ cZ zn zm zj zf zr zw zs zfr zto zk zt za zb zq zl zv zo zu zov ztu zsh zle zmo zc zlo zhi)) (F0 m 0 ls [])
  unfold mX8_isRun at hres
  refine lv_iload_n hx hb dX8_isRun_0 rfl (lv_at hl 1 rfl) ?_
  refine lv_i2l (v := (x1).toInt64) hx hb dX8_isRun_1 rfl ?_
  refine lv_aload_n hx hb dX8_isRun_2 rfl (lv_at hl 0 rfl) ?_
  refine va_get (D := (dC, dI)) (ci := 8) (v := .ref (q 3)) (C := RX8) (T := TX8) (N := 26) hx hb hts hwX8_isRun_RX8 hown hK hP 0 rfl rfl 2 (by decide) (hts _ mwX8_isRun_0) (fun _ h9 => h9) rfl dX8_isRun_3 ?_
  refine lv_iconst (v := (0 : Int32)) hx hb dX8_isRun_6 (by decide) ?_
  refine va_iald (D := (dC, dI)) (cl := vwCl) hx hb hK hP 3 0 rfl rfl (show ¬ ((0 : Int32) < 0 ∨ 2 ≤ Int32.toNatClampNeg (0 : Int32)) by decide) dX8_isRun_7 ?_
  refine lv_i2l (v := ((zfr (Int32.toNatClampNeg (0 : Int32)))).toInt64) hx hb dX8_isRun_8 rfl ?_
  refine lv_aload_n hx hb dX8_isRun_9 rfl (lv_at hl 0 rfl) ?_
  refine va_get (D := (dC, dI)) (ci := 8) (v := .ref (q 4)) (C := RX8) (T := TX8) (N := 26) hx hb hts hwX8_isRun_RX8 hown hK hP 0 rfl rfl 3 (by decide) (hts _ mwX8_isRun_1) (fun _ h9 => h9) rfl dX8_isRun_10 ?_
  refine lv_iconst (v := (0 : Int32)) hx hb dX8_isRun_13 (by decide) ?_
  refine va_iald (D := (dC, dI)) (cl := vwCl) hx hb hK hP 4 0 rfl rfl (show ¬ ((0 : Int32) < 0 ∨ 2 ≤ Int32.toNatClampNeg (0 : Int32)) by decide) dX8_isRun_14 ?_
  refine lv_i2l (v := ((zto (Int32.toNatClampNeg (0 : Int32)))).toInt64) hx hb dX8_isRun_15 rfl ?_
  obtain ⟨u1, hu1, hres⟩ := mi_b hres
  refine call_I C0 (run_S C0 (rest := []) (kX8_in l (dC, dI) (ty3 cI cJ cZ) (wM q cI cJ cZ zn zm zj zf zr zw zs zfr zto zk zt za zb zq zl zv zo zu zov ztu zsh zle zmo zc zlo zhi) ((x1).toInt64) (((zfr (Int32.toNatClampNeg (0 : Int32)))).toInt64) (((zto (Int32.toNatClampNeg (0 : Int32)))).toInt64) u1 hu1 _) (va_cwS 3 hts gX8_isRun_X8_in rfl rfl rfl (by decide +kernel) ⟨by decide, by decide⟩) hP hD rfl hl.1 rfl (Nat.le_of_ble_eq_true rfl) dX8_isRun_16) hD hS (fun H locs hP hD hS => ?_)
  refine lv_if_eq (tgt := 48) hx hb dX8_isRun_19 (by decide) (fun c_2 => ?_) (fun c_2 => ?_)
  · replace hres := mi_p c_2 hres
    refine lv_iconst (v := (0 : Int32)) hx hb dX8_isRun_48 (by decide) ?_
    obtain rfl := Option.some.inj hres
    exact ret_I (r := (0 : Int32)) C0 rfl hP hD hS dX8_isRun_49
  · replace hres := mi_n c_2 hres
    refine lv_iload_n hx hb dX8_isRun_22 rfl (lv_at hl 2 rfl) ?_
    refine lv_i2l (v := (x2).toInt64) hx hb dX8_isRun_23 rfl ?_
    refine lv_aload_n hx hb dX8_isRun_24 rfl (lv_at hl 0 rfl) ?_
    refine va_get (D := (dC, dI)) (ci := 8) (v := .ref (q 3)) (C := RX8) (T := TX8) (N := 26) hx hb hts hwX8_isRun_RX8 hown hK hP 0 rfl rfl 2 (by decide) (hts _ mwX8_isRun_0) (fun _ h9 => h9) rfl dX8_isRun_25 ?_
    refine lv_iconst (v := (1 : Int32)) hx hb dX8_isRun_28 (by decide) ?_
    refine va_iald (D := (dC, dI)) (cl := vwCl) hx hb hK hP 3 0 rfl rfl (show ¬ ((1 : Int32) < 0 ∨ 2 ≤ Int32.toNatClampNeg (1 : Int32)) by decide) dX8_isRun_29 ?_
    refine lv_i2l (v := ((zfr (Int32.toNatClampNeg (1 : Int32)))).toInt64) hx hb dX8_isRun_30 rfl ?_
    refine lv_aload_n hx hb dX8_isRun_31 rfl (lv_at hl 0 rfl) ?_
    refine va_get (D := (dC, dI)) (ci := 8) (v := .ref (q 4)) (C := RX8) (T := TX8) (N := 26) hx hb hts hwX8_isRun_RX8 hown hK hP 0 rfl rfl 3 (by decide) (hts _ mwX8_isRun_1) (fun _ h9 => h9) rfl dX8_isRun_32 ?_
    refine lv_iconst (v := (1 : Int32)) hx hb dX8_isRun_35 (by decide) ?_
    refine va_iald (D := (dC, dI)) (cl := vwCl) hx hb hK hP 4 0 rfl rfl (show ¬ ((1 : Int32) < 0 ∨ 2 ≤ Int32.toNatClampNeg (1 : Int32)) by decide) dX8_isRun_36 ?_
    refine lv_i2l (v := ((zto (Int32.toNatClampNeg (1 : Int32)))).toInt64) hx hb dX8_isRun_37 rfl ?_
    obtain ⟨u3, hu3, hres⟩ := mi_b hres
    refine call_I C0 (run_S C0 (rest := []) (kX8_in l (dC, dI) (ty3 cI cJ cZ) (wM q cI cJ cZ zn zm zj zf zr zw zs zfr zto zk zt za zb zq zl zv zo zu zov ztu zsh zle zmo zc zlo zhi) ((x2).toInt64) (((zfr (Int32.toNatClampNeg (1 : Int32)))).toInt64) (((zto (Int32.toNatClampNeg (1 : Int32)))).toInt64) u3 hu3 _) (va_cwS 3 hts gX8_isRun_X8_in rfl rfl rfl (by decide +kernel) ⟨by decide, by decide⟩) hP hD rfl hl.1 rfl (Nat.le_of_ble_eq_true rfl) dX8_isRun_38) hD hS (fun H locs hP hD hS => ?_)
    refine lv_if_eq (tgt := 48) hx hb dX8_isRun_41 (by decide) (fun c_4 => ?_) (fun c_4 => ?_)
    · replace hres := mi_p c_4 hres
      refine lv_iconst (v := (0 : Int32)) hx hb dX8_isRun_48 (by decide) ?_
      obtain rfl := Option.some.inj hres
      exact ret_I (r := (0 : Int32)) C0 rfl hP hD hS dX8_isRun_49
    · replace hres := mi_n c_4 hres
      refine lv_iconst (v := (1 : Int32)) hx hb dX8_isRun_44 (by decide) ?_
      refine lv_goto (tgt := 49) hx hb dX8_isRun_45 (by decide) ?_
      obtain rfl := Option.some.inj hres
      exact ret_I (r := (1 : Int32)) C0 rfl hP hD hS dX8_isRun_49
/-! ### SumsOverModel.run(III)I -/
theorem mwX8_run_0 : (.constant RX8 164 (-2147483648) : Cond) ∈ wsX8_run := by decide +kernel
set_option maxRecDepth 20000 in
theorem hwX8_run_RX8 : ∀ w ∈ u_ws RX8 TX8 26, w ∈ wsX8_run := by decide +kernel
theorem mwX8_run_1 : (.fieldLink RX8 41 "SumsOverModel" "values" "[J" : Cond) ∈ wsX8_run := by decide +kernel
def rmX8_run : Room := { frames := 4, cells := 0, slots := 0, locals := 99 }
set_option maxHeartbeats 4000000 in
set_option maxRecDepth 100000 in
theorem kX8_run (l : Launch) (dC : Nat → ClassId) (dI : Nat → Nat → Nat) (q : Nat → Nat) (cI cJ cZ : ClassId) (zn : Int32) (zm : Int32) (zj : Int32) (zf : Int32) (zr : Int32) (zw : Nat → Int32) (zs : Nat → Int32) (zfr : Nat → Int32) (zto : Nat → Int32) (zk : Nat → Int32) (zt : Nat → Int32) (za : Nat → Int32) (zb : Nat → Int32) (zq : Nat → Int32) (zl : Nat → Int32) (zv : Nat → Int64) (zo : Nat → Int32) (zu : Nat → Int32) (zov : Nat → Int32) (ztu : Nat → Int32) (zsh : Nat → Int32) (zle : Nat → Int64) (zmo : Nat → Int64) (zc : Nat → Int32) (zlo : Nat → Int64) (zhi : Nat → Int64) (x1 : Int32) (x2 : Int32) (x3 : Int32) (RES : Int32 × (Int32) × (Int32) × (Nat → Int32) × (Nat → Int64) × (Nat → Int32) × (Nat → Int32)) (hres : mX8_run zn zm zj zf zw zs zfr zto zk zt za zb zl zv zo zu x1 x2 x3 = some RES) : CtI l yX8_run wsX8_run rmX8_run (dC, dI) (ty3 cI cJ cZ) (wM q cI cJ cZ zn zm zj zf zr zw zs zfr zto zk zt za zb zq zl zv zo zu zov ztu zsh zle zmo zc zlo zhi) [.ref (q 0), .int x1, .int x2, .int x3] RES.1 (wM q cI cJ cZ zn zm RES.2.1 RES.2.2.1 zr zw zs zfr zto zk zt za zb zq RES.2.2.2.1 RES.2.2.2.2.1 RES.2.2.2.2.2.1 RES.2.2.2.2.2.2 zov ztu zsh zle zmo zc zlo zhi) := by
  intro sz
  refine ct_entry (cc := cX8_run) (maxL := 4) (ret := some .int) (own := RX8) (by decide) rfl rfl (Nat.le_of_ble_eq_true rfl) (ll := [(0, .ref (q 0)), (1, .int x1), (2, .int x2), (3, .int x3)]) rfl ?_
  intro p e s m args below meth c hsz C0 _ hP hD ls hl
  have C1 := C0
  obtain ⟨hx, hb, hr, hml, hown, hts, hlocks, hN, hK, hA⟩ := C1
  have hS : va_S (va_A (wM q cI cJ cZ zn zm zj zf zr zw zs zfr zto zk zt za zb zq zl zv zo zu zov ztu zsh zle zmo zc zlo zhi) sz) s.heap s.heap [] := va_S.rf
  generalize va_A (wM q cI cJ cZ zn zm zj zf zr zw zs zfr zto zk zt za zb zq zl zv zo zu zov ztu zsh zle zmo zc zlo zhi) sz = A at C0 hD hA hS ⊢
  show W p l e rmX8_run s m args below meth c s.heap [] 0 0 (QI below args s A (dC, dI) (ty3 cI cJ cZ) RES.1 (wM q cI cJ cZ zn zm RES.2.1 RES.2.2.1 zr zw zs zfr zto zk zt za zb zq RES.2.2.2.1 RES.2.2.2.2.1 RES.2.2.2.2.2.1 RES.2.2.2.2.2.2 zov ztu zsh zle zmo zc zlo zhi)) (F0 m 0 ls [])
  unfold mX8_run at hres
  refine lv_aload_n hx hb dX8_run_0 rfl (lv_at hl 0 rfl) ?_
  refine lv_iload_n hx hb dX8_run_1 rfl (lv_at hl 1 rfl) ?_
  refine lv_iload_n hx hb dX8_run_2 rfl (lv_at hl 2 rfl) ?_
  obtain ⟨u1, hu1, hres⟩ := mi_b hres
  refine call_I C0 (run_V C0 (rest := []) (kX8_isRun l dC dI q cI cJ cZ zn zm zj zf zr zw zs zfr zto zk zt za zb zq zl zv zo zu zov ztu zsh zle zmo zc zlo zhi  x1 x2 u1 hu1 _) (cwV 2 hts gX8_run_X8_isRun rfl rfl rfl (by decide +kernel) ⟨by decide, by decide⟩) hP hD (ci := 8) (q0 := 0) rfl rfl rfl hl.1 rfl (Nat.le_of_ble_eq_true rfl) dX8_run_3) hD hS (fun H locs hP hD hS => ?_)
  refine lv_if_eq (tgt := 16) hx hb dX8_run_6 (by decide) (fun c_2 => ?_) (fun c_2 => ?_)
  · replace hres := mi_p c_2 hres
    refine lv_ldc (own := RX8) (v := (-2147483648 : Int32)) hx hb hown (hts _ mwX8_run_0) dX8_run_16 ?_
    obtain rfl := Option.some.inj hres
    exact ret_I (r := (-2147483648 : Int32)) C0 rfl hP hD hS dX8_run_18
  · replace hres := mi_n c_2 hres
    refine lv_iload_n hx hb dX8_run_9 rfl (lv_at hl 3 rfl) ?_
    obtain ⟨u3, hu3, hres⟩ := mi_b hres
    refine call_I C0 (run_S C0 (rest := []) (kX8_isName l (dC, dI) (ty3 cI cJ cZ) (wM q cI cJ cZ zn zm zj zf zr zw zs zfr zto zk zt za zb zq zl zv zo zu zov ztu zsh zle zmo zc zlo zhi) x3 u3 hu3 _) (va_cwS 1 hts gX8_run_X8_isName rfl rfl rfl (by decide +kernel) ⟨by decide, by decide⟩) hP hD rfl hl.1 rfl (Nat.le_of_ble_eq_true rfl) dX8_run_10) hD hS (fun H locs hP hD hS => ?_)
    refine lv_if_ne (tgt := 19) hx hb dX8_run_13 (by decide) (fun c_4 => ?_) (fun c_4 => ?_)
    · replace hres := mi_n c_4 hres
      refine lv_aload_n hx hb dX8_run_19 rfl (lv_at hl 0 rfl) ?_
      obtain ⟨u5, hu5, hres⟩ := mi_b hres
      refine call_V C0 (run_V C0 (rest := []) (kX8_lays l dC dI q cI cJ cZ zn zm zj zf zr zw zs zfr zto zk zt za zb zq zl zv zo zu zov ztu zsh zle zmo zc zlo zhi   u5 hu5 _) (cwV 0 hts gX8_run_X8_lays rfl rfl rfl (by decide +kernel) ⟨by decide, by decide⟩) hP hD (ci := 8) (q0 := 0) rfl rfl rfl hl.1 rfl (Nat.le_of_ble_eq_true rfl) dX8_run_20) hD hS (fun H locs hP hD hS => ?_)
      refine lv_aload_n hx hb dX8_run_23 rfl (lv_at hl 0 rfl) ?_
      refine lv_iload_n hx hb dX8_run_24 rfl (lv_at hl 1 rfl) ?_
      refine lv_iload_n hx hb dX8_run_25 rfl (lv_at hl 2 rfl) ?_
      obtain ⟨u6, hu6, hres⟩ := mi_b hres
      refine call_V C0 (run_V C0 (rest := []) (kX8_runs l dC dI q cI cJ cZ zn zm u5.1 zf zr zw zs zfr zto zk zt za zb zq u5.2 zv zo zu zov ztu zsh zle zmo zc zlo zhi  x1 x2 u6 hu6 _) (cwV 2 hts gX8_run_X8_runs rfl rfl rfl (by decide +kernel) ⟨by decide, by decide⟩) hP hD (ci := 8) (q0 := 0) rfl rfl rfl hl.1 rfl (Nat.le_of_ble_eq_true rfl) dX8_run_26) hD hS (fun H locs hP hD hS => ?_)
      refine lv_aload_n hx hb dX8_run_29 rfl (lv_at hl 0 rfl) ?_
      refine va_get (D := (dC, dI)) (ci := 8) (v := .ref (q 11)) (C := RX8) (T := TX8) (N := 26) hx hb hts hwX8_run_RX8 hown hK hP 0 rfl rfl 13 (by decide) (hts _ mwX8_run_1) (fun _ h9 => h9) rfl dX8_run_30 ?_
      refine lv_iload_n hx hb dX8_run_33 rfl (lv_at hl 3 rfl) ?_
      obtain ⟨g_7, hres⟩ := mi_g hres
      refine va_lald (D := (dC, dI)) (cl := vwCl) hx hb hK hP 11 1 rfl rfl g_7 dX8_run_34 ?_
      refine lv_l2i (v := ((u6.2.1 (Int32.toNatClampNeg x3))).toInt32) hx hb dX8_run_35 rfl ?_
      obtain rfl := Option.some.inj hres
      exact ret_I (r := (((u6.2.1 (Int32.toNatClampNeg x3))).toInt32)) C0 rfl hP hD hS dX8_run_36
    · replace hres := mi_p c_4 hres
      refine lv_ldc (own := RX8) (v := (-2147483648 : Int32)) hx hb hown (hts _ mwX8_run_0) dX8_run_16 ?_
      obtain rfl := Option.some.inj hres
      exact ret_I (r := (-2147483648 : Int32)) C0 rfl hP hD hS dX8_run_18
/-! ### SumsOverModel.first(II)I -/
set_option maxRecDepth 20000 in
theorem hwX8_first_RX8 : ∀ w ∈ u_ws RX8 TX8 26, w ∈ wsX8_first := by decide +kernel
theorem mwX8_first_0 : (.fieldLink RX8 136 "SumsOverModel" "firstOver" "I" : Cond) ∈ wsX8_first := by decide +kernel
def rmX8_first : Room := { frames := 4, cells := 0, slots := 0, locals := 99 }
set_option maxHeartbeats 4000000 in
set_option maxRecDepth 100000 in
theorem kX8_first (l : Launch) (dC : Nat → ClassId) (dI : Nat → Nat → Nat) (q : Nat → Nat) (cI cJ cZ : ClassId) (zn : Int32) (zm : Int32) (zj : Int32) (zf : Int32) (zr : Int32) (zw : Nat → Int32) (zs : Nat → Int32) (zfr : Nat → Int32) (zto : Nat → Int32) (zk : Nat → Int32) (zt : Nat → Int32) (za : Nat → Int32) (zb : Nat → Int32) (zq : Nat → Int32) (zl : Nat → Int32) (zv : Nat → Int64) (zo : Nat → Int32) (zu : Nat → Int32) (zov : Nat → Int32) (ztu : Nat → Int32) (zsh : Nat → Int32) (zle : Nat → Int64) (zmo : Nat → Int64) (zc : Nat → Int32) (zlo : Nat → Int64) (zhi : Nat → Int64) (x1 : Int32) (x2 : Int32) (RES : Int32 × (Int32) × (Int32) × (Nat → Int32) × (Nat → Int64) × (Nat → Int32) × (Nat → Int32)) (hres : mX8_first zn zm zj zf zw zs zfr zto zk zt za zb zl zv zo zu x1 x2 = some RES) : CtI l yX8_first wsX8_first rmX8_first (dC, dI) (ty3 cI cJ cZ) (wM q cI cJ cZ zn zm zj zf zr zw zs zfr zto zk zt za zb zq zl zv zo zu zov ztu zsh zle zmo zc zlo zhi) [.ref (q 0), .int x1, .int x2] RES.1 (wM q cI cJ cZ zn zm RES.2.1 RES.2.2.1 zr zw zs zfr zto zk zt za zb zq RES.2.2.2.1 RES.2.2.2.2.1 RES.2.2.2.2.2.1 RES.2.2.2.2.2.2 zov ztu zsh zle zmo zc zlo zhi) := by
  intro sz
  refine ct_entry (cc := cX8_first) (maxL := 3) (ret := some .int) (own := RX8) (by decide) rfl rfl (Nat.le_of_ble_eq_true rfl) (ll := [(0, .ref (q 0)), (1, .int x1), (2, .int x2)]) rfl ?_
  intro p e s m args below meth c hsz C0 _ hP hD ls hl
  have C1 := C0
  obtain ⟨hx, hb, hr, hml, hown, hts, hlocks, hN, hK, hA⟩ := C1
  have hS : va_S (va_A (wM q cI cJ cZ zn zm zj zf zr zw zs zfr zto zk zt za zb zq zl zv zo zu zov ztu zsh zle zmo zc zlo zhi) sz) s.heap s.heap [] := va_S.rf
  generalize va_A (wM q cI cJ cZ zn zm zj zf zr zw zs zfr zto zk zt za zb zq zl zv zo zu zov ztu zsh zle zmo zc zlo zhi) sz = A at C0 hD hA hS ⊢
  show W p l e rmX8_first s m args below meth c s.heap [] 0 0 (QI below args s A (dC, dI) (ty3 cI cJ cZ) RES.1 (wM q cI cJ cZ zn zm RES.2.1 RES.2.2.1 zr zw zs zfr zto zk zt za zb zq RES.2.2.2.1 RES.2.2.2.2.1 RES.2.2.2.2.2.1 RES.2.2.2.2.2.2 zov ztu zsh zle zmo zc zlo zhi)) (F0 m 0 ls [])
  unfold mX8_first at hres
  refine lv_aload_n hx hb dX8_first_0 rfl (lv_at hl 0 rfl) ?_
  refine lv_iload_n hx hb dX8_first_1 rfl (lv_at hl 1 rfl) ?_
  refine lv_iload_n hx hb dX8_first_2 rfl (lv_at hl 2 rfl) ?_
  obtain ⟨u1, hu1, hres⟩ := mi_b hres
  refine call_I C0 (run_V C0 (rest := []) (kX8_isRun l dC dI q cI cJ cZ zn zm zj zf zr zw zs zfr zto zk zt za zb zq zl zv zo zu zov ztu zsh zle zmo zc zlo zhi  x1 x2 u1 hu1 _) (cwV 2 hts gX8_first_X8_isRun rfl rfl rfl (by decide +kernel) ⟨by decide, by decide⟩) hP hD (ci := 8) (q0 := 0) rfl rfl rfl hl.1 rfl (Nat.le_of_ble_eq_true rfl) dX8_first_3) hD hS (fun H locs hP hD hS => ?_)
  refine lv_if_ne (tgt := 11) hx hb dX8_first_6 (by decide) (fun c_2 => ?_) (fun c_2 => ?_)
  · replace hres := mi_n c_2 hres
    refine lv_aload_n hx hb dX8_first_11 rfl (lv_at hl 0 rfl) ?_
    obtain ⟨u3, hu3, hres⟩ := mi_b hres
    refine call_V C0 (run_V C0 (rest := []) (kX8_lays l dC dI q cI cJ cZ zn zm zj zf zr zw zs zfr zto zk zt za zb zq zl zv zo zu zov ztu zsh zle zmo zc zlo zhi   u3 hu3 _) (cwV 0 hts gX8_first_X8_lays rfl rfl rfl (by decide +kernel) ⟨by decide, by decide⟩) hP hD (ci := 8) (q0 := 0) rfl rfl rfl hl.1 rfl (Nat.le_of_ble_eq_true rfl) dX8_first_12) hD hS (fun H locs hP hD hS => ?_)
    refine lv_aload_n hx hb dX8_first_15 rfl (lv_at hl 0 rfl) ?_
    refine lv_iload_n hx hb dX8_first_16 rfl (lv_at hl 1 rfl) ?_
    refine lv_iload_n hx hb dX8_first_17 rfl (lv_at hl 2 rfl) ?_
    obtain ⟨u4, hu4, hres⟩ := mi_b hres
    refine call_V C0 (run_V C0 (rest := []) (kX8_runs l dC dI q cI cJ cZ zn zm u3.1 zf zr zw zs zfr zto zk zt za zb zq u3.2 zv zo zu zov ztu zsh zle zmo zc zlo zhi  x1 x2 u4 hu4 _) (cwV 2 hts gX8_first_X8_runs rfl rfl rfl (by decide +kernel) ⟨by decide, by decide⟩) hP hD (ci := 8) (q0 := 0) rfl rfl rfl hl.1 rfl (Nat.le_of_ble_eq_true rfl) dX8_first_18) hD hS (fun H locs hP hD hS => ?_)
    refine lv_aload_n hx hb dX8_first_21 rfl (lv_at hl 0 rfl) ?_
    refine va_get (D := (dC, dI)) (ci := 8) (v := .int u4.1) (C := RX8) (T := TX8) (N := 26) hx hb hts hwX8_first_RX8 hown hK hP 0 rfl rfl 16 (by decide) (hts _ mwX8_first_0) (fun _ h9 => h9) rfl dX8_first_22 ?_
    obtain rfl := Option.some.inj hres
    exact ret_I (r := u4.1) C0 rfl hP hD hS dX8_first_25
  · replace hres := mi_p c_2 hres
    refine lv_iconst (v := (-1 : Int32)) hx hb dX8_first_9 (by decide) ?_
    obtain rfl := Option.some.inj hres
    exact ret_I (r := (-1 : Int32)) C0 rfl hP hD hS dX8_first_10
/-! ### SumsOverModel.ends(IJJ)Z -/
set_option maxRecDepth 20000 in
theorem hwX8_ends_RX8 : ∀ w ∈ u_ws RX8 TX8 26, w ∈ wsX8_ends := by decide +kernel
theorem mwX8_ends_0 : (.fieldLink RX8 107 "SumsOverModel" "mode" "I" : Cond) ∈ wsX8_ends := by decide +kernel
theorem mwX8_ends_1 : (.fieldLink RX8 60 "SumsOverModel" "least" "[J" : Cond) ∈ wsX8_ends := by decide +kernel
theorem mwX8_ends_2 : (.fieldLink RX8 63 "SumsOverModel" "most" "[J" : Cond) ∈ wsX8_ends := by decide +kernel
def rmX8_ends : Room := { frames := 2, cells := 0, slots := 0, locals := 48 }
def iX8_ends_L24 (p : Program) (l : Launch) (e : Env) (s : State) (m : MethodId) (args : Array Value) (below : List Frame) (meth : Method) (c : Code) (A : Nat → Prop) (dC : Nat → ClassId) (dI : Nat → Nat → Nat) (q : Nat → Nat) (cI cJ cZ : ClassId) (zn : Int32) (zm : Int32) (zj : Int32) (zf : Int32) (zr : Int32) (zw : Nat → Int32) (zs : Nat → Int32) (zfr : Nat → Int32) (zto : Nat → Int32) (zk : Nat → Int32) (zt : Nat → Int32) (za : Nat → Int32) (zb : Nat → Int32) (zq : Nat → Int32) (zl : Nat → Int32) (zv : Nat → Int64) (zo : Nat → Int32) (zu : Nat → Int32) (zov : Nat → Int32) (ztu : Nat → Int32) (zsh : Nat → Int32) (zc : Nat → Int32) (zlo : Nat → Int64) (zhi : Nat → Int64)  (RES : Int32 × (Nat → Int64) × (Nat → Int64)) (k : (Nat → Int64) → (Nat → Int64) → (Int32) → (Int64) → (Int64) → (Int32) → Option (Int32 × (Nat → Int64) × (Nat → Int64))) : Prop := ∀ (zle : Nat → Int64) (zmo : Nat → Int64) (x1 : Int32) (x2 : Int64) (x4 : Int64) (t0 : Int32) (H : Heap) (locs : List Loc) (ls : Array Slot), va_P (dC, dI) vwCl (wM q cI cJ cZ zn zm zj zf zr zw zs zfr zto zk zt za zb zq zl zv zo zu zov ztu zsh zle zmo zc zlo zhi) H → va_D A (wM q cI cJ cZ zn zm zj zf zr zw zs zfr zto zk zt za zb zq zl zv zo zu zov ztu zsh zle zmo zc zlo zhi) → va_S A s.heap H locs → lv_has ls 7 [(0, .ref (q 0)), (1, .int x1), (2, .long x2), (4, .long x4)] → k zle zmo x1 x2 x4 t0 = some RES → W p l e rmX8_ends s m args below meth c H locs 0 0 (QI below args s A (dC, dI) (ty3 cI cJ cZ) RES.1 (wM q cI cJ cZ zn zm zj zf zr zw zs zfr zto zk zt za zb zq zl zv zo zu zov ztu zsh RES.2.1 RES.2.2 zc zlo zhi)) (F0 m 24 ls [.int t0])
set_option maxHeartbeats 4000000 in
set_option maxRecDepth 100000 in
theorem zX8_ends_L24 {p : Program} {l : Launch} {e : Env} {s : State} {m : MethodId} {args : Array Value} {below : List Frame} {meth : Method} {c : Code} {A : Nat → Prop} {dC : Nat → ClassId} {dI : Nat → Nat → Nat} {q : Nat → Nat} {cI cJ cZ : ClassId} {zn : Int32} {zm : Int32} {zj : Int32} {zf : Int32} {zr : Int32} {zw : Nat → Int32} {zs : Nat → Int32} {zfr : Nat → Int32} {zto : Nat → Int32} {zk : Nat → Int32} {zt : Nat → Int32} {za : Nat → Int32} {zb : Nat → Int32} {zq : Nat → Int32} {zl : Nat → Int32} {zv : Nat → Int64} {zo : Nat → Int32} {zu : Nat → Int32} {zov : Nat → Int32} {ztu : Nat → Int32} {zsh : Nat → Int32} {zc : Nat → Int32} {zlo : Nat → Int64} {zhi : Nat → Int64}  (C0 : Cx p s m args meth c cX8_ends 7 (some .boolean) RX8 wsX8_ends A (dC, dI) (ty3 cI cJ cZ)) {RES : Int32 × (Nat → Int64) × (Nat → Int64)}  : iX8_ends_L24 p l e s m args below meth c A dC dI q cI cJ cZ zn zm zj zf zr zw zs zfr zto zk zt za zb zq zl zv zo zu zov ztu zsh zc zlo zhi RES (mX8_ends_L24 zm zw zs) := by
  have C1 := C0
  obtain ⟨hx, hb, hr, hml, hown, hts, hlocks, hN, hK, hA⟩ := C1
  intro zle zmo x1 x2 x4 t0 H locs ls hP hD hS hl hres
  unfold mX8_ends_L24 at hres
  refine lv_istore (lv' := [(6, .int t0), (0, .ref (q 0)), (1, .int x1), (2, .long x2), (4, .long x4)]) hx hb dX8_ends_24 hl (by decide) rfl (fun ls hl => ?_)
  refine lv_iload hx hb dX8_ends_26 (lv_at hl 0 rfl) ?_
  refine lv_if_ne (tgt := 49) hx hb dX8_ends_28 (by decide) (fun c_5 => ?_) (fun c_5 => ?_)
  · replace hres := mi_n c_5 hres
    refine lv_aload_n hx hb dX8_ends_49 rfl (lv_at hl 1 rfl) ?_
    refine va_get (D := (dC, dI)) (ci := 8) (v := .int zm) (C := RX8) (T := TX8) (N := 26) hx hb hts hwX8_ends_RX8 hown hK hP 0 rfl rfl 10 (by decide) (hts _ mwX8_ends_0) (fun _ h9 => h9) rfl dX8_ends_50 ?_
    refine lv_if_ne (tgt := 81) hx hb dX8_ends_53 (by decide) (fun c_6 => ?_) (fun c_6 => ?_)
    · replace hres := mi_n c_6 hres
      refine lv_aload_n hx hb dX8_ends_81 rfl (lv_at hl 1 rfl) ?_
      refine va_get (D := (dC, dI)) (ci := 8) (v := .ref (q 17)) (C := RX8) (T := TX8) (N := 26) hx hb hts hwX8_ends_RX8 hown hK hP 0 rfl rfl 21 (by decide) (hts _ mwX8_ends_1) (fun _ h9 => h9) rfl dX8_ends_82 ?_
      refine lv_iload_n hx hb dX8_ends_85 rfl (lv_at hl 2 rfl) ?_
      refine lv_aload_n hx hb dX8_ends_86 rfl (lv_at hl 1 rfl) ?_
      refine lv_iload_n hx hb dX8_ends_87 rfl (lv_at hl 2 rfl) ?_
      refine lv_lload_n hx hb dX8_ends_88 rfl (lv_at hl 3 rfl) ?_
      obtain ⟨u7, hu7, hres⟩ := mi_b hres
      refine call_L C0 (run_V C0 (rest := [.int x1, .ref (q 17)]) (kX8_put l dC dI q cI cJ cZ zn zm zj zf zr zw zs zfr zto zk zt za zb zq zl zv zo zu zov ztu zsh zle zmo zc zlo zhi  x1 x2 u7 hu7 _) (cwV 2 hts gX8_ends_X8_put rfl rfl rfl (by decide +kernel) ⟨by decide, by decide⟩) hP hD (ci := 8) (q0 := 0) rfl rfl rfl hl.1 rfl (Nat.le_of_ble_eq_true rfl) dX8_ends_89) hD hS (fun H locs hP hD hS => ?_)
      obtain ⟨g_8, hres⟩ := mi_g hres
      refine va_last (D := (dC, dI)) (cl := vwCl) hx hb hK hP hD hS 17 1 rfl rfl g_8 dX8_ends_92 (fun H locs hP hD hS => ?_)
      have hP : va_P (dC, dI) vwCl (wM q cI cJ cZ zn zm zj zf zr zw zs zfr zto zk zt za zb zq zl zv zo zu zov ztu zsh (vp_updL zle (Int32.toNatClampNeg x1) u7) zmo zc zlo zhi) H := hP
      have hD : va_D A (wM q cI cJ cZ zn zm zj zf zr zw zs zfr zto zk zt za zb zq zl zv zo zu zov ztu zsh (vp_updL zle (Int32.toNatClampNeg x1) u7) zmo zc zlo zhi) := hD
      refine lv_aload_n hx hb dX8_ends_93 rfl (lv_at hl 1 rfl) ?_
      refine va_get (D := (dC, dI)) (ci := 8) (v := .ref (q 18)) (C := RX8) (T := TX8) (N := 26) hx hb hts hwX8_ends_RX8 hown hK hP 0 rfl rfl 22 (by decide) (hts _ mwX8_ends_2) (fun _ h9 => h9) rfl dX8_ends_94 ?_
      refine lv_iload_n hx hb dX8_ends_97 rfl (lv_at hl 2 rfl) ?_
      refine lv_aload_n hx hb dX8_ends_98 rfl (lv_at hl 1 rfl) ?_
      refine lv_iload_n hx hb dX8_ends_99 rfl (lv_at hl 2 rfl) ?_
      refine lv_lload hx hb dX8_ends_100 (lv_at hl 4 rfl) ?_
      obtain ⟨u9, hu9, hres⟩ := mi_b hres
      refine call_L C0 (run_V C0 (rest := [.int x1, .ref (q 18)]) (kX8_put l dC dI q cI cJ cZ zn zm zj zf zr zw zs zfr zto zk zt za zb zq zl zv zo zu zov ztu zsh (vp_updL zle (Int32.toNatClampNeg x1) u7) zmo zc zlo zhi  x1 x4 u9 hu9 _) (cwV 2 hts gX8_ends_X8_put rfl rfl rfl (by decide +kernel) ⟨by decide, by decide⟩) hP hD (ci := 8) (q0 := 0) rfl rfl rfl hl.1 rfl (Nat.le_of_ble_eq_true rfl) dX8_ends_102) hD hS (fun H locs hP hD hS => ?_)
      refine va_last (D := (dC, dI)) (cl := vwCl) hx hb hK hP hD hS 18 1 rfl rfl g_8 dX8_ends_105 (fun H locs hP hD hS => ?_)
      have hP : va_P (dC, dI) vwCl (wM q cI cJ cZ zn zm zj zf zr zw zs zfr zto zk zt za zb zq zl zv zo zu zov ztu zsh (vp_updL zle (Int32.toNatClampNeg x1) u7) (vp_updL zmo (Int32.toNatClampNeg x1) u9) zc zlo zhi) H := hP
      have hD : va_D A (wM q cI cJ cZ zn zm zj zf zr zw zs zfr zto zk zt za zb zq zl zv zo zu zov ztu zsh (vp_updL zle (Int32.toNatClampNeg x1) u7) (vp_updL zmo (Int32.toNatClampNeg x1) u9) zc zlo zhi) := hD
      refine lv_iload hx hb dX8_ends_106 (lv_at hl 0 rfl) ?_
      obtain ⟨g_10, hres⟩ := mi_g hres
      obtain rfl := Option.some.inj hres
      exact ret_I (r := t0) C0 (narrow_z (Decidable.not_not.mp g_10)) hP hD hS dX8_ends_108
    · replace hres := mi_p c_6 hres
      refine lv_aload_n hx hb dX8_ends_56 rfl (lv_at hl 1 rfl) ?_
      refine va_get (D := (dC, dI)) (ci := 8) (v := .ref (q 17)) (C := RX8) (T := TX8) (N := 26) hx hb hts hwX8_ends_RX8 hown hK hP 0 rfl rfl 21 (by decide) (hts _ mwX8_ends_1) (fun _ h9 => h9) rfl dX8_ends_57 ?_
      refine lv_iload_n hx hb dX8_ends_60 rfl (lv_at hl 2 rfl) ?_
      refine lv_aload_n hx hb dX8_ends_61 rfl (lv_at hl 1 rfl) ?_
      refine lv_iload_n hx hb dX8_ends_62 rfl (lv_at hl 2 rfl) ?_
      obtain ⟨u11, hu11, hres⟩ := mi_b hres
      refine call_L C0 (run_V C0 (rest := [.int x1, .ref (q 17)]) (kX8_low l dC dI q cI cJ cZ zn zm zj zf zr zw zs zfr zto zk zt za zb zq zl zv zo zu zov ztu zsh zle zmo zc zlo zhi  x1 u11 hu11 _) (cwV 1 hts gX8_ends_X8_low rfl rfl rfl (by decide +kernel) ⟨by decide, by decide⟩) hP hD (ci := 8) (q0 := 0) rfl rfl rfl hl.1 rfl (Nat.le_of_ble_eq_true rfl) dX8_ends_63) hD hS (fun H locs hP hD hS => ?_)
      obtain ⟨g_12, hres⟩ := mi_g hres
      refine va_last (D := (dC, dI)) (cl := vwCl) hx hb hK hP hD hS 17 1 rfl rfl g_12 dX8_ends_66 (fun H locs hP hD hS => ?_)
      have hP : va_P (dC, dI) vwCl (wM q cI cJ cZ zn zm zj zf zr zw zs zfr zto zk zt za zb zq zl zv zo zu zov ztu zsh (vp_updL zle (Int32.toNatClampNeg x1) u11) zmo zc zlo zhi) H := hP
      have hD : va_D A (wM q cI cJ cZ zn zm zj zf zr zw zs zfr zto zk zt za zb zq zl zv zo zu zov ztu zsh (vp_updL zle (Int32.toNatClampNeg x1) u11) zmo zc zlo zhi) := hD
      refine lv_aload_n hx hb dX8_ends_67 rfl (lv_at hl 1 rfl) ?_
      refine va_get (D := (dC, dI)) (ci := 8) (v := .ref (q 18)) (C := RX8) (T := TX8) (N := 26) hx hb hts hwX8_ends_RX8 hown hK hP 0 rfl rfl 22 (by decide) (hts _ mwX8_ends_2) (fun _ h9 => h9) rfl dX8_ends_68 ?_
      refine lv_iload_n hx hb dX8_ends_71 rfl (lv_at hl 2 rfl) ?_
      refine lv_aload_n hx hb dX8_ends_72 rfl (lv_at hl 1 rfl) ?_
      refine lv_iload_n hx hb dX8_ends_73 rfl (lv_at hl 2 rfl) ?_
      obtain ⟨u13, hu13, hres⟩ := mi_b hres
      refine call_L C0 (run_V C0 (rest := [.int x1, .ref (q 18)]) (kX8_high l dC dI q cI cJ cZ zn zm zj zf zr zw zs zfr zto zk zt za zb zq zl zv zo zu zov ztu zsh (vp_updL zle (Int32.toNatClampNeg x1) u11) zmo zc zlo zhi  x1 u13 hu13 _) (cwV 1 hts gX8_ends_X8_high rfl rfl rfl (by decide +kernel) ⟨by decide, by decide⟩) hP hD (ci := 8) (q0 := 0) rfl rfl rfl hl.1 rfl (Nat.le_of_ble_eq_true rfl) dX8_ends_74) hD hS (fun H locs hP hD hS => ?_)
      refine va_last (D := (dC, dI)) (cl := vwCl) hx hb hK hP hD hS 18 1 rfl rfl g_12 dX8_ends_77 (fun H locs hP hD hS => ?_)
      have hP : va_P (dC, dI) vwCl (wM q cI cJ cZ zn zm zj zf zr zw zs zfr zto zk zt za zb zq zl zv zo zu zov ztu zsh (vp_updL zle (Int32.toNatClampNeg x1) u11) (vp_updL zmo (Int32.toNatClampNeg x1) u13) zc zlo zhi) H := hP
      have hD : va_D A (wM q cI cJ cZ zn zm zj zf zr zw zs zfr zto zk zt za zb zq zl zv zo zu zov ztu zsh (vp_updL zle (Int32.toNatClampNeg x1) u11) (vp_updL zmo (Int32.toNatClampNeg x1) u13) zc zlo zhi) := hD
      refine lv_goto (tgt := 106) hx hb dX8_ends_78 (by decide) ?_
      refine lv_iload hx hb dX8_ends_106 (lv_at hl 0 rfl) ?_
      obtain ⟨g_14, hres⟩ := mi_g hres
      obtain rfl := Option.some.inj hres
      exact ret_I (r := t0) C0 (narrow_z (Decidable.not_not.mp g_14)) hP hD hS dX8_ends_108
  · replace hres := mi_p c_5 hres
    refine lv_aload_n hx hb dX8_ends_31 rfl (lv_at hl 1 rfl) ?_
    refine va_get (D := (dC, dI)) (ci := 8) (v := .ref (q 17)) (C := RX8) (T := TX8) (N := 26) hx hb hts hwX8_ends_RX8 hown hK hP 0 rfl rfl 21 (by decide) (hts _ mwX8_ends_1) (fun _ h9 => h9) rfl dX8_ends_32 ?_
    refine lv_iload_n hx hb dX8_ends_35 rfl (lv_at hl 2 rfl) ?_
    refine lv_lload_n hx hb dX8_ends_36 rfl (lv_at hl 3 rfl) ?_
    obtain ⟨g_15, hres⟩ := mi_g hres
    refine va_last (D := (dC, dI)) (cl := vwCl) hx hb hK hP hD hS 17 1 rfl rfl g_15 dX8_ends_37 (fun H locs hP hD hS => ?_)
    have hP : va_P (dC, dI) vwCl (wM q cI cJ cZ zn zm zj zf zr zw zs zfr zto zk zt za zb zq zl zv zo zu zov ztu zsh (vp_updL zle (Int32.toNatClampNeg x1) x2) zmo zc zlo zhi) H := hP
    have hD : va_D A (wM q cI cJ cZ zn zm zj zf zr zw zs zfr zto zk zt za zb zq zl zv zo zu zov ztu zsh (vp_updL zle (Int32.toNatClampNeg x1) x2) zmo zc zlo zhi) := hD
    refine lv_aload_n hx hb dX8_ends_38 rfl (lv_at hl 1 rfl) ?_
    refine va_get (D := (dC, dI)) (ci := 8) (v := .ref (q 18)) (C := RX8) (T := TX8) (N := 26) hx hb hts hwX8_ends_RX8 hown hK hP 0 rfl rfl 22 (by decide) (hts _ mwX8_ends_2) (fun _ h9 => h9) rfl dX8_ends_39 ?_
    refine lv_iload_n hx hb dX8_ends_42 rfl (lv_at hl 2 rfl) ?_
    refine lv_lload hx hb dX8_ends_43 (lv_at hl 4 rfl) ?_
    refine va_last (D := (dC, dI)) (cl := vwCl) hx hb hK hP hD hS 18 1 rfl rfl g_15 dX8_ends_45 (fun H locs hP hD hS => ?_)
    have hP : va_P (dC, dI) vwCl (wM q cI cJ cZ zn zm zj zf zr zw zs zfr zto zk zt za zb zq zl zv zo zu zov ztu zsh (vp_updL zle (Int32.toNatClampNeg x1) x2) (vp_updL zmo (Int32.toNatClampNeg x1) x4) zc zlo zhi) H := hP
    have hD : va_D A (wM q cI cJ cZ zn zm zj zf zr zw zs zfr zto zk zt za zb zq zl zv zo zu zov ztu zsh (vp_updL zle (Int32.toNatClampNeg x1) x2) (vp_updL zmo (Int32.toNatClampNeg x1) x4) zc zlo zhi) := hD
    refine lv_goto (tgt := 106) hx hb dX8_ends_46 (by decide) ?_
    refine lv_iload hx hb dX8_ends_106 (lv_at hl 0 rfl) ?_
    obtain ⟨g_16, hres⟩ := mi_g hres
    obtain rfl := Option.some.inj hres
    exact ret_I (r := t0) C0 (narrow_z (Decidable.not_not.mp g_16)) hP hD hS dX8_ends_108
set_option maxHeartbeats 4000000 in
set_option maxRecDepth 100000 in
theorem kX8_ends (l : Launch) (dC : Nat → ClassId) (dI : Nat → Nat → Nat) (q : Nat → Nat) (cI cJ cZ : ClassId) (zn : Int32) (zm : Int32) (zj : Int32) (zf : Int32) (zr : Int32) (zw : Nat → Int32) (zs : Nat → Int32) (zfr : Nat → Int32) (zto : Nat → Int32) (zk : Nat → Int32) (zt : Nat → Int32) (za : Nat → Int32) (zb : Nat → Int32) (zq : Nat → Int32) (zl : Nat → Int32) (zv : Nat → Int64) (zo : Nat → Int32) (zu : Nat → Int32) (zov : Nat → Int32) (ztu : Nat → Int32) (zsh : Nat → Int32) (zle : Nat → Int64) (zmo : Nat → Int64) (zc : Nat → Int32) (zlo : Nat → Int64) (zhi : Nat → Int64) (x1 : Int32) (x2 : Int64) (x4 : Int64) (RES : Int32 × (Nat → Int64) × (Nat → Int64)) (hres : mX8_ends zm zw zs zle zmo x1 x2 x4 = some RES) : CtI l yX8_ends wsX8_ends rmX8_ends (dC, dI) (ty3 cI cJ cZ) (wM q cI cJ cZ zn zm zj zf zr zw zs zfr zto zk zt za zb zq zl zv zo zu zov ztu zsh zle zmo zc zlo zhi) [.ref (q 0), .int x1, .long x2, .long x4] RES.1 (wM q cI cJ cZ zn zm zj zf zr zw zs zfr zto zk zt za zb zq zl zv zo zu zov ztu zsh RES.2.1 RES.2.2 zc zlo zhi) := by
  intro sz
  refine ct_entry (cc := cX8_ends) (maxL := 7) (ret := some .boolean) (own := RX8) (by decide) rfl rfl (Nat.le_of_ble_eq_true rfl) (ll := [(0, .ref (q 0)), (1, .int x1), (2, .long x2), (4, .long x4)]) rfl ?_
  intro p e s m args below meth c hsz C0 _ hP hD ls hl
  have C1 := C0
  obtain ⟨hx, hb, hr, hml, hown, hts, hlocks, hN, hK, hA⟩ := C1
  have hS : va_S (va_A (wM q cI cJ cZ zn zm zj zf zr zw zs zfr zto zk zt za zb zq zl zv zo zu zov ztu zsh zle zmo zc zlo zhi) sz) s.heap s.heap [] := va_S.rf
  generalize va_A (wM q cI cJ cZ zn zm zj zf zr zw zs zfr zto zk zt za zb zq zl zv zo zu zov ztu zsh zle zmo zc zlo zhi) sz = A at C0 hD hA hS ⊢
  show W p l e rmX8_ends s m args below meth c s.heap [] 0 0 (QI below args s A (dC, dI) (ty3 cI cJ cZ) RES.1 (wM q cI cJ cZ zn zm zj zf zr zw zs zfr zto zk zt za zb zq zl zv zo zu zov ztu zsh RES.2.1 RES.2.2 zc zlo zhi)) (F0 m 0 ls [])
  unfold mX8_ends at hres
  refine lv_aload_n hx hb dX8_ends_0 rfl (lv_at hl 0 rfl) ?_
  refine lv_iload_n hx hb dX8_ends_1 rfl (lv_at hl 1 rfl) ?_
  refine lv_lload_n hx hb dX8_ends_2 rfl (lv_at hl 2 rfl) ?_
  obtain ⟨u1, hu1, hres⟩ := mi_b hres
  refine call_I C0 (run_V C0 (rest := []) (kX8_goesOver l dC dI q cI cJ cZ zn zm zj zf zr zw zs zfr zto zk zt za zb zq zl zv zo zu zov ztu zsh zle zmo zc zlo zhi  x1 x2 u1 hu1 _) (cwV 2 hts gX8_ends_X8_goesOver rfl rfl rfl (by decide +kernel) ⟨by decide, by decide⟩) hP hD (ci := 8) (q0 := 0) rfl rfl rfl hl.1 rfl (Nat.le_of_ble_eq_true rfl) dX8_ends_3) hD hS (fun H locs hP hD hS => ?_)
  refine lv_if_ne (tgt := 19) hx hb dX8_ends_6 (by decide) (fun c_2 => ?_) (fun c_2 => ?_)
  · replace hres := mi_n c_2 hres
    refine lv_iconst (v := (1 : Int32)) hx hb dX8_ends_19 (by decide) ?_
    refine lv_goto (tgt := 24) hx hb dX8_ends_20 (by decide) ?_
    exact zX8_ends_L24 C0  zle zmo x1 x2 x4 (1 : Int32) _ _ ls hP hD hS (lv_sub hl [0, 1, 2, 3] rfl) hres
  · replace hres := mi_p c_2 hres
    refine lv_aload_n hx hb dX8_ends_9 rfl (lv_at hl 0 rfl) ?_
    refine lv_iload_n hx hb dX8_ends_10 rfl (lv_at hl 1 rfl) ?_
    refine lv_lload hx hb dX8_ends_11 (lv_at hl 3 rfl) ?_
    obtain ⟨u3, hu3, hres⟩ := mi_b hres
    refine call_I C0 (run_V C0 (rest := []) (kX8_goesOver l dC dI q cI cJ cZ zn zm zj zf zr zw zs zfr zto zk zt za zb zq zl zv zo zu zov ztu zsh zle zmo zc zlo zhi  x1 x4 u3 hu3 _) (cwV 2 hts gX8_ends_X8_goesOver rfl rfl rfl (by decide +kernel) ⟨by decide, by decide⟩) hP hD (ci := 8) (q0 := 0) rfl rfl rfl hl.1 rfl (Nat.le_of_ble_eq_true rfl) dX8_ends_13) hD hS (fun H locs hP hD hS => ?_)
    refine lv_if_eq (tgt := 23) hx hb dX8_ends_16 (by decide) (fun c_4 => ?_) (fun c_4 => ?_)
    · replace hres := mi_p c_4 hres
      refine lv_iconst (v := (0 : Int32)) hx hb dX8_ends_23 (by decide) ?_
      exact zX8_ends_L24 C0  zle zmo x1 x2 x4 (0 : Int32) _ _ ls hP hD hS (lv_sub hl [0, 1, 2, 3] rfl) hres
    · replace hres := mi_n c_4 hres
      refine lv_iconst (v := (1 : Int32)) hx hb dX8_ends_19 (by decide) ?_
      refine lv_goto (tgt := 24) hx hb dX8_ends_20 (by decide) ?_
      exact zX8_ends_L24 C0  zle zmo x1 x2 x4 (1 : Int32) _ _ ls hP hD hS (lv_sub hl [0, 1, 2, 3] rfl) hres
/-! ### SumsOverModel.products(I)Z -/
set_option maxRecDepth 20000 in
theorem hwX8_products_RX8 : ∀ w ∈ u_ws RX8 TX8 26, w ∈ wsX8_products := by decide +kernel
theorem mwX8_products_0 : (.fieldLink RX8 60 "SumsOverModel" "least" "[J" : Cond) ∈ wsX8_products := by decide +kernel
theorem mwX8_products_1 : (.fieldLink RX8 29 "SumsOverModel" "a" "[I" : Cond) ∈ wsX8_products := by decide +kernel
theorem mwX8_products_2 : (.fieldLink RX8 32 "SumsOverModel" "b" "[I" : Cond) ∈ wsX8_products := by decide +kernel
theorem mwX8_products_3 : (.fieldLink RX8 63 "SumsOverModel" "most" "[J" : Cond) ∈ wsX8_products := by decide +kernel
theorem mwX8_products_4 : (.fieldLink RX8 26 "SumsOverModel" "target" "[I" : Cond) ∈ wsX8_products := by decide +kernel
theorem mwX8_products_5 : (.methodLink RX8 130 Lib.MathLoose.min_long.x : Cond) ∈ wsX8_products := by decide +kernel
theorem mwX8_products_6 : (.static Lib.MathLoose.min_long.x : Cond) ∈ wsX8_products := by decide +kernel
theorem mwX8_products_7 : (.initialized "java/lang/Math" : Cond) ∈ wsX8_products := by decide +kernel
theorem mwX8_products_8 : (.code Lib.MathLoose.min_long.x Lib.MathLoose.min_long.code 4 (some .long) : Cond) ∈ wsX8_products := by decide +kernel
theorem mwX8_products_9 : (.methodLink RX8 165 Lib.MathLoose.max_long.x : Cond) ∈ wsX8_products := by decide +kernel
theorem mwX8_products_10 : (.static Lib.MathLoose.max_long.x : Cond) ∈ wsX8_products := by decide +kernel
theorem mwX8_products_11 : (.code Lib.MathLoose.max_long.x Lib.MathLoose.max_long.code 4 (some .long) : Cond) ∈ wsX8_products := by decide +kernel
def rmX8_products : Room := { frames := 3, cells := 0, slots := 0, locals := 74 }
set_option maxHeartbeats 4000000 in
set_option maxRecDepth 100000 in
theorem kX8_products (l : Launch) (dC : Nat → ClassId) (dI : Nat → Nat → Nat) (q : Nat → Nat) (cI cJ cZ : ClassId) (zn : Int32) (zm : Int32) (zj : Int32) (zf : Int32) (zr : Int32) (zw : Nat → Int32) (zs : Nat → Int32) (zfr : Nat → Int32) (zto : Nat → Int32) (zk : Nat → Int32) (zt : Nat → Int32) (za : Nat → Int32) (zb : Nat → Int32) (zq : Nat → Int32) (zl : Nat → Int32) (zv : Nat → Int64) (zo : Nat → Int32) (zu : Nat → Int32) (zov : Nat → Int32) (ztu : Nat → Int32) (zsh : Nat → Int32) (zle : Nat → Int64) (zmo : Nat → Int64) (zc : Nat → Int32) (zlo : Nat → Int64) (zhi : Nat → Int64) (x1 : Int32) (RES : Int32 × (Nat → Int64) × (Nat → Int64)) (hres : mX8_products zm zw zs zt za zb zle zmo x1 = some RES) : CtI l yX8_products wsX8_products rmX8_products (dC, dI) (ty3 cI cJ cZ) (wM q cI cJ cZ zn zm zj zf zr zw zs zfr zto zk zt za zb zq zl zv zo zu zov ztu zsh zle zmo zc zlo zhi) [.ref (q 0), .int x1] RES.1 (wM q cI cJ cZ zn zm zj zf zr zw zs zfr zto zk zt za zb zq zl zv zo zu zov ztu zsh RES.2.1 RES.2.2 zc zlo zhi) := by
  intro sz
  refine ct_entry (cc := cX8_products) (maxL := 10) (ret := some .boolean) (own := RX8) (by decide) rfl rfl (Nat.le_of_ble_eq_true rfl) (ll := [(0, .ref (q 0)), (1, .int x1)]) rfl ?_
  intro p e s m args below meth c hsz C0 _ hP hD ls hl
  have C1 := C0
  obtain ⟨hx, hb, hr, hml, hown, hts, hlocks, hN, hK, hA⟩ := C1
  have hS : va_S (va_A (wM q cI cJ cZ zn zm zj zf zr zw zs zfr zto zk zt za zb zq zl zv zo zu zov ztu zsh zle zmo zc zlo zhi) sz) s.heap s.heap [] := va_S.rf
  generalize va_A (wM q cI cJ cZ zn zm zj zf zr zw zs zfr zto zk zt za zb zq zl zv zo zu zov ztu zsh zle zmo zc zlo zhi) sz = A at C0 hD hA hS ⊢
  show W p l e rmX8_products s m args below meth c s.heap [] 0 0 (QI below args s A (dC, dI) (ty3 cI cJ cZ) RES.1 (wM q cI cJ cZ zn zm zj zf zr zw zs zfr zto zk zt za zb zq zl zv zo zu zov ztu zsh RES.2.1 RES.2.2 zc zlo zhi)) (F0 m 0 ls [])
  unfold mX8_products at hres
  refine lv_aload_n hx hb dX8_products_0 rfl (lv_at hl 0 rfl) ?_
  refine va_get (D := (dC, dI)) (ci := 8) (v := .ref (q 17)) (C := RX8) (T := TX8) (N := 26) hx hb hts hwX8_products_RX8 hown hK hP 0 rfl rfl 21 (by decide) (hts _ mwX8_products_0) (fun _ h9 => h9) rfl dX8_products_1 ?_
  refine lv_aload_n hx hb dX8_products_4 rfl (lv_at hl 0 rfl) ?_
  refine va_get (D := (dC, dI)) (ci := 8) (v := .ref (q 7)) (C := RX8) (T := TX8) (N := 26) hx hb hts hwX8_products_RX8 hown hK hP 0 rfl rfl 6 (by decide) (hts _ mwX8_products_1) (fun _ h9 => h9) rfl dX8_products_5 ?_
  refine lv_iload_n hx hb dX8_products_8 rfl (lv_at hl 1 rfl) ?_
  obtain ⟨g_1, hres⟩ := mi_g hres
  refine va_iald (D := (dC, dI)) (cl := vwCl) hx hb hK hP 7 0 rfl rfl g_1 dX8_products_9 ?_
  obtain ⟨g_2, hres⟩ := mi_g hres
  refine va_lald (D := (dC, dI)) (cl := vwCl) hx hb hK hP 17 1 rfl rfl g_2 dX8_products_10 ?_
  refine lv_aload_n hx hb dX8_products_11 rfl (lv_at hl 0 rfl) ?_
  refine va_get (D := (dC, dI)) (ci := 8) (v := .ref (q 17)) (C := RX8) (T := TX8) (N := 26) hx hb hts hwX8_products_RX8 hown hK hP 0 rfl rfl 21 (by decide) (hts _ mwX8_products_0) (fun _ h9 => h9) rfl dX8_products_12 ?_
  refine lv_aload_n hx hb dX8_products_15 rfl (lv_at hl 0 rfl) ?_
  refine va_get (D := (dC, dI)) (ci := 8) (v := .ref (q 8)) (C := RX8) (T := TX8) (N := 26) hx hb hts hwX8_products_RX8 hown hK hP 0 rfl rfl 7 (by decide) (hts _ mwX8_products_2) (fun _ h9 => h9) rfl dX8_products_16 ?_
  refine lv_iload_n hx hb dX8_products_19 rfl (lv_at hl 1 rfl) ?_
  refine va_iald (D := (dC, dI)) (cl := vwCl) hx hb hK hP 8 0 rfl rfl g_1 dX8_products_20 ?_
  obtain ⟨g_3, hres⟩ := mi_g hres
  refine va_lald (D := (dC, dI)) (cl := vwCl) hx hb hK hP 17 1 rfl rfl g_3 dX8_products_21 ?_
  refine lv_lmul hx hb dX8_products_22 ?_
  refine lv_lstore_n (lv' := [(2, .long ((zle (Int32.toNatClampNeg (za (Int32.toNatClampNeg x1)))) * (zle (Int32.toNatClampNeg (zb (Int32.toNatClampNeg x1)))))), (0, .ref (q 0)), (1, .int x1)]) hx hb dX8_products_23 rfl hl (by decide) rfl (fun ls hl => ?_)
  refine lv_aload_n hx hb dX8_products_24 rfl (lv_at hl 1 rfl) ?_
  refine va_get (D := (dC, dI)) (ci := 8) (v := .ref (q 17)) (C := RX8) (T := TX8) (N := 26) hx hb hts hwX8_products_RX8 hown hK hP 0 rfl rfl 21 (by decide) (hts _ mwX8_products_0) (fun _ h9 => h9) rfl dX8_products_25 ?_
  refine lv_aload_n hx hb dX8_products_28 rfl (lv_at hl 1 rfl) ?_
  refine va_get (D := (dC, dI)) (ci := 8) (v := .ref (q 7)) (C := RX8) (T := TX8) (N := 26) hx hb hts hwX8_products_RX8 hown hK hP 0 rfl rfl 6 (by decide) (hts _ mwX8_products_1) (fun _ h9 => h9) rfl dX8_products_29 ?_
  refine lv_iload_n hx hb dX8_products_32 rfl (lv_at hl 2 rfl) ?_
  refine va_iald (D := (dC, dI)) (cl := vwCl) hx hb hK hP 7 0 rfl rfl g_1 dX8_products_33 ?_
  refine va_lald (D := (dC, dI)) (cl := vwCl) hx hb hK hP 17 1 rfl rfl g_2 dX8_products_34 ?_
  refine lv_aload_n hx hb dX8_products_35 rfl (lv_at hl 1 rfl) ?_
  refine va_get (D := (dC, dI)) (ci := 8) (v := .ref (q 18)) (C := RX8) (T := TX8) (N := 26) hx hb hts hwX8_products_RX8 hown hK hP 0 rfl rfl 22 (by decide) (hts _ mwX8_products_3) (fun _ h9 => h9) rfl dX8_products_36 ?_
  refine lv_aload_n hx hb dX8_products_39 rfl (lv_at hl 1 rfl) ?_
  refine va_get (D := (dC, dI)) (ci := 8) (v := .ref (q 8)) (C := RX8) (T := TX8) (N := 26) hx hb hts hwX8_products_RX8 hown hK hP 0 rfl rfl 7 (by decide) (hts _ mwX8_products_2) (fun _ h9 => h9) rfl dX8_products_40 ?_
  refine lv_iload_n hx hb dX8_products_43 rfl (lv_at hl 2 rfl) ?_
  refine va_iald (D := (dC, dI)) (cl := vwCl) hx hb hK hP 8 0 rfl rfl g_1 dX8_products_44 ?_
  refine va_lald (D := (dC, dI)) (cl := vwCl) hx hb hK hP 18 1 rfl rfl g_3 dX8_products_45 ?_
  refine lv_lmul hx hb dX8_products_46 ?_
  refine lv_lstore (lv' := [(4, .long ((zle (Int32.toNatClampNeg (za (Int32.toNatClampNeg x1)))) * (zmo (Int32.toNatClampNeg (zb (Int32.toNatClampNeg x1)))))), (2, .long ((zle (Int32.toNatClampNeg (za (Int32.toNatClampNeg x1)))) * (zle (Int32.toNatClampNeg (zb (Int32.toNatClampNeg x1)))))), (0, .ref (q 0)), (1, .int x1)]) hx hb dX8_products_47 hl (by decide) rfl (fun ls hl => ?_)
  refine lv_aload_n hx hb dX8_products_49 rfl (lv_at hl 2 rfl) ?_
  refine va_get (D := (dC, dI)) (ci := 8) (v := .ref (q 18)) (C := RX8) (T := TX8) (N := 26) hx hb hts hwX8_products_RX8 hown hK hP 0 rfl rfl 22 (by decide) (hts _ mwX8_products_3) (fun _ h9 => h9) rfl dX8_products_50 ?_
  refine lv_aload_n hx hb dX8_products_53 rfl (lv_at hl 2 rfl) ?_
  refine va_get (D := (dC, dI)) (ci := 8) (v := .ref (q 7)) (C := RX8) (T := TX8) (N := 26) hx hb hts hwX8_products_RX8 hown hK hP 0 rfl rfl 6 (by decide) (hts _ mwX8_products_1) (fun _ h9 => h9) rfl dX8_products_54 ?_
  refine lv_iload_n hx hb dX8_products_57 rfl (lv_at hl 3 rfl) ?_
  refine va_iald (D := (dC, dI)) (cl := vwCl) hx hb hK hP 7 0 rfl rfl g_1 dX8_products_58 ?_
  refine va_lald (D := (dC, dI)) (cl := vwCl) hx hb hK hP 18 1 rfl rfl g_2 dX8_products_59 ?_
  refine lv_aload_n hx hb dX8_products_60 rfl (lv_at hl 2 rfl) ?_
  refine va_get (D := (dC, dI)) (ci := 8) (v := .ref (q 17)) (C := RX8) (T := TX8) (N := 26) hx hb hts hwX8_products_RX8 hown hK hP 0 rfl rfl 21 (by decide) (hts _ mwX8_products_0) (fun _ h9 => h9) rfl dX8_products_61 ?_
  refine lv_aload_n hx hb dX8_products_64 rfl (lv_at hl 2 rfl) ?_
  refine va_get (D := (dC, dI)) (ci := 8) (v := .ref (q 8)) (C := RX8) (T := TX8) (N := 26) hx hb hts hwX8_products_RX8 hown hK hP 0 rfl rfl 7 (by decide) (hts _ mwX8_products_2) (fun _ h9 => h9) rfl dX8_products_65 ?_
  refine lv_iload_n hx hb dX8_products_68 rfl (lv_at hl 3 rfl) ?_
  refine va_iald (D := (dC, dI)) (cl := vwCl) hx hb hK hP 8 0 rfl rfl g_1 dX8_products_69 ?_
  refine va_lald (D := (dC, dI)) (cl := vwCl) hx hb hK hP 17 1 rfl rfl g_3 dX8_products_70 ?_
  refine lv_lmul hx hb dX8_products_71 ?_
  refine lv_lstore (lv' := [(6, .long ((zmo (Int32.toNatClampNeg (za (Int32.toNatClampNeg x1)))) * (zle (Int32.toNatClampNeg (zb (Int32.toNatClampNeg x1)))))), (4, .long ((zle (Int32.toNatClampNeg (za (Int32.toNatClampNeg x1)))) * (zmo (Int32.toNatClampNeg (zb (Int32.toNatClampNeg x1)))))), (2, .long ((zle (Int32.toNatClampNeg (za (Int32.toNatClampNeg x1)))) * (zle (Int32.toNatClampNeg (zb (Int32.toNatClampNeg x1)))))), (0, .ref (q 0)), (1, .int x1)]) hx hb dX8_products_72 hl (by decide) rfl (fun ls hl => ?_)
  refine lv_aload_n hx hb dX8_products_74 rfl (lv_at hl 3 rfl) ?_
  refine va_get (D := (dC, dI)) (ci := 8) (v := .ref (q 18)) (C := RX8) (T := TX8) (N := 26) hx hb hts hwX8_products_RX8 hown hK hP 0 rfl rfl 22 (by decide) (hts _ mwX8_products_3) (fun _ h9 => h9) rfl dX8_products_75 ?_
  refine lv_aload_n hx hb dX8_products_78 rfl (lv_at hl 3 rfl) ?_
  refine va_get (D := (dC, dI)) (ci := 8) (v := .ref (q 7)) (C := RX8) (T := TX8) (N := 26) hx hb hts hwX8_products_RX8 hown hK hP 0 rfl rfl 6 (by decide) (hts _ mwX8_products_1) (fun _ h9 => h9) rfl dX8_products_79 ?_
  refine lv_iload_n hx hb dX8_products_82 rfl (lv_at hl 4 rfl) ?_
  refine va_iald (D := (dC, dI)) (cl := vwCl) hx hb hK hP 7 0 rfl rfl g_1 dX8_products_83 ?_
  refine va_lald (D := (dC, dI)) (cl := vwCl) hx hb hK hP 18 1 rfl rfl g_2 dX8_products_84 ?_
  refine lv_aload_n hx hb dX8_products_85 rfl (lv_at hl 3 rfl) ?_
  refine va_get (D := (dC, dI)) (ci := 8) (v := .ref (q 18)) (C := RX8) (T := TX8) (N := 26) hx hb hts hwX8_products_RX8 hown hK hP 0 rfl rfl 22 (by decide) (hts _ mwX8_products_3) (fun _ h9 => h9) rfl dX8_products_86 ?_
  refine lv_aload_n hx hb dX8_products_89 rfl (lv_at hl 3 rfl) ?_
  refine va_get (D := (dC, dI)) (ci := 8) (v := .ref (q 8)) (C := RX8) (T := TX8) (N := 26) hx hb hts hwX8_products_RX8 hown hK hP 0 rfl rfl 7 (by decide) (hts _ mwX8_products_2) (fun _ h9 => h9) rfl dX8_products_90 ?_
  refine lv_iload_n hx hb dX8_products_93 rfl (lv_at hl 4 rfl) ?_
  refine va_iald (D := (dC, dI)) (cl := vwCl) hx hb hK hP 8 0 rfl rfl g_1 dX8_products_94 ?_
  refine va_lald (D := (dC, dI)) (cl := vwCl) hx hb hK hP 18 1 rfl rfl g_3 dX8_products_95 ?_
  refine lv_lmul hx hb dX8_products_96 ?_
  refine lv_lstore (lv' := [(8, .long ((zmo (Int32.toNatClampNeg (za (Int32.toNatClampNeg x1)))) * (zmo (Int32.toNatClampNeg (zb (Int32.toNatClampNeg x1)))))), (6, .long ((zmo (Int32.toNatClampNeg (za (Int32.toNatClampNeg x1)))) * (zle (Int32.toNatClampNeg (zb (Int32.toNatClampNeg x1)))))), (4, .long ((zle (Int32.toNatClampNeg (za (Int32.toNatClampNeg x1)))) * (zmo (Int32.toNatClampNeg (zb (Int32.toNatClampNeg x1)))))), (2, .long ((zle (Int32.toNatClampNeg (za (Int32.toNatClampNeg x1)))) * (zle (Int32.toNatClampNeg (zb (Int32.toNatClampNeg x1)))))), (0, .ref (q 0)), (1, .int x1)]) hx hb dX8_products_97 hl (by decide) rfl (fun ls hl => ?_)
  refine lv_aload_n hx hb dX8_products_99 rfl (lv_at hl 4 rfl) ?_
  refine lv_aload_n hx hb dX8_products_100 rfl (lv_at hl 4 rfl) ?_
  refine va_get (D := (dC, dI)) (ci := 8) (v := .ref (q 6)) (C := RX8) (T := TX8) (N := 26) hx hb hts hwX8_products_RX8 hown hK hP 0 rfl rfl 5 (by decide) (hts _ mwX8_products_4) (fun _ h9 => h9) rfl dX8_products_101 ?_
  refine lv_iload_n hx hb dX8_products_104 rfl (lv_at hl 5 rfl) ?_
  refine va_iald (D := (dC, dI)) (cl := vwCl) hx hb hK hP 6 0 rfl rfl g_1 dX8_products_105 ?_
  refine lv_lload_n hx hb dX8_products_106 rfl (lv_at hl 3 rfl) ?_
  refine lv_lload hx hb dX8_products_107 (lv_at hl 2 rfl) ?_
  refine va_mmin_long hx hb (hml.trans hl.1.symm) hown (hts _ mwX8_products_5) (hts _ mwX8_products_6) (hts _ mwX8_products_7) (hts _ mwX8_products_8) (Nat.le_of_ble_eq_true rfl) (Nat.le_of_ble_eq_true rfl) (Nat.zero_le _) (Nat.zero_le _) dX8_products_109 ?_
  refine lv_lload hx hb dX8_products_112 (lv_at hl 1 rfl) ?_
  refine lv_lload hx hb dX8_products_114 (lv_at hl 0 rfl) ?_
  refine va_mmin_long hx hb (hml.trans hl.1.symm) hown (hts _ mwX8_products_5) (hts _ mwX8_products_6) (hts _ mwX8_products_7) (hts _ mwX8_products_8) (Nat.le_of_ble_eq_true rfl) (Nat.le_of_ble_eq_true rfl) (Nat.zero_le _) (Nat.zero_le _) dX8_products_116 ?_
  refine va_mmin_long hx hb (hml.trans hl.1.symm) hown (hts _ mwX8_products_5) (hts _ mwX8_products_6) (hts _ mwX8_products_7) (hts _ mwX8_products_8) (Nat.le_of_ble_eq_true rfl) (Nat.le_of_ble_eq_true rfl) (Nat.zero_le _) (Nat.zero_le _) dX8_products_119 ?_
  refine lv_lload_n hx hb dX8_products_122 rfl (lv_at hl 3 rfl) ?_
  refine lv_lload hx hb dX8_products_123 (lv_at hl 2 rfl) ?_
  refine va_mmax_long hx hb (hml.trans hl.1.symm) hown (hts _ mwX8_products_9) (hts _ mwX8_products_10) (hts _ mwX8_products_7) (hts _ mwX8_products_11) (Nat.le_of_ble_eq_true rfl) (Nat.le_of_ble_eq_true rfl) (Nat.zero_le _) (Nat.zero_le _) dX8_products_125 ?_
  refine lv_lload hx hb dX8_products_128 (lv_at hl 1 rfl) ?_
  refine lv_lload hx hb dX8_products_130 (lv_at hl 0 rfl) ?_
  refine va_mmax_long hx hb (hml.trans hl.1.symm) hown (hts _ mwX8_products_9) (hts _ mwX8_products_10) (hts _ mwX8_products_7) (hts _ mwX8_products_11) (Nat.le_of_ble_eq_true rfl) (Nat.le_of_ble_eq_true rfl) (Nat.zero_le _) (Nat.zero_le _) dX8_products_132 ?_
  refine va_mmax_long hx hb (hml.trans hl.1.symm) hown (hts _ mwX8_products_9) (hts _ mwX8_products_10) (hts _ mwX8_products_7) (hts _ mwX8_products_11) (Nat.le_of_ble_eq_true rfl) (Nat.le_of_ble_eq_true rfl) (Nat.zero_le _) (Nat.zero_le _) dX8_products_135 ?_
  obtain ⟨u4, hu4, hres⟩ := mi_b hres
  refine call_I C0 (run_V C0 (rest := []) (kX8_ends l dC dI q cI cJ cZ zn zm zj zf zr zw zs zfr zto zk zt za zb zq zl zv zo zu zov ztu zsh zle zmo zc zlo zhi  (zt (Int32.toNatClampNeg x1)) (if (if ((zmo (Int32.toNatClampNeg (za (Int32.toNatClampNeg x1)))) * (zmo (Int32.toNatClampNeg (zb (Int32.toNatClampNeg x1))))) < ((zmo (Int32.toNatClampNeg (za (Int32.toNatClampNeg x1)))) * (zle (Int32.toNatClampNeg (zb (Int32.toNatClampNeg x1))))) then ((zmo (Int32.toNatClampNeg (za (Int32.toNatClampNeg x1)))) * (zmo (Int32.toNatClampNeg (zb (Int32.toNatClampNeg x1))))) else ((zmo (Int32.toNatClampNeg (za (Int32.toNatClampNeg x1)))) * (zle (Int32.toNatClampNeg (zb (Int32.toNatClampNeg x1)))))) < (if ((zle (Int32.toNatClampNeg (za (Int32.toNatClampNeg x1)))) * (zmo (Int32.toNatClampNeg (zb (Int32.toNatClampNeg x1))))) < ((zle (Int32.toNatClampNeg (za (Int32.toNatClampNeg x1)))) * (zle (Int32.toNatClampNeg (zb (Int32.toNatClampNeg x1))))) then ((zle (Int32.toNatClampNeg (za (Int32.toNatClampNeg x1)))) * (zmo (Int32.toNatClampNeg (zb (Int32.toNatClampNeg x1))))) else ((zle (Int32.toNatClampNeg (za (Int32.toNatClampNeg x1)))) * (zle (Int32.toNatClampNeg (zb (Int32.toNatClampNeg x1)))))) then (if ((zmo (Int32.toNatClampNeg (za (Int32.toNatClampNeg x1)))) * (zmo (Int32.toNatClampNeg (zb (Int32.toNatClampNeg x1))))) < ((zmo (Int32.toNatClampNeg (za (Int32.toNatClampNeg x1)))) * (zle (Int32.toNatClampNeg (zb (Int32.toNatClampNeg x1))))) then ((zmo (Int32.toNatClampNeg (za (Int32.toNatClampNeg x1)))) * (zmo (Int32.toNatClampNeg (zb (Int32.toNatClampNeg x1))))) else ((zmo (Int32.toNatClampNeg (za (Int32.toNatClampNeg x1)))) * (zle (Int32.toNatClampNeg (zb (Int32.toNatClampNeg x1)))))) else (if ((zle (Int32.toNatClampNeg (za (Int32.toNatClampNeg x1)))) * (zmo (Int32.toNatClampNeg (zb (Int32.toNatClampNeg x1))))) < ((zle (Int32.toNatClampNeg (za (Int32.toNatClampNeg x1)))) * (zle (Int32.toNatClampNeg (zb (Int32.toNatClampNeg x1))))) then ((zle (Int32.toNatClampNeg (za (Int32.toNatClampNeg x1)))) * (zmo (Int32.toNatClampNeg (zb (Int32.toNatClampNeg x1))))) else ((zle (Int32.toNatClampNeg (za (Int32.toNatClampNeg x1)))) * (zle (Int32.toNatClampNeg (zb (Int32.toNatClampNeg x1))))))) (if (if ((zmo (Int32.toNatClampNeg (za (Int32.toNatClampNeg x1)))) * (zmo (Int32.toNatClampNeg (zb (Int32.toNatClampNeg x1))))) < ((zmo (Int32.toNatClampNeg (za (Int32.toNatClampNeg x1)))) * (zle (Int32.toNatClampNeg (zb (Int32.toNatClampNeg x1))))) then ((zmo (Int32.toNatClampNeg (za (Int32.toNatClampNeg x1)))) * (zle (Int32.toNatClampNeg (zb (Int32.toNatClampNeg x1))))) else ((zmo (Int32.toNatClampNeg (za (Int32.toNatClampNeg x1)))) * (zmo (Int32.toNatClampNeg (zb (Int32.toNatClampNeg x1)))))) < (if ((zle (Int32.toNatClampNeg (za (Int32.toNatClampNeg x1)))) * (zmo (Int32.toNatClampNeg (zb (Int32.toNatClampNeg x1))))) < ((zle (Int32.toNatClampNeg (za (Int32.toNatClampNeg x1)))) * (zle (Int32.toNatClampNeg (zb (Int32.toNatClampNeg x1))))) then ((zle (Int32.toNatClampNeg (za (Int32.toNatClampNeg x1)))) * (zle (Int32.toNatClampNeg (zb (Int32.toNatClampNeg x1))))) else ((zle (Int32.toNatClampNeg (za (Int32.toNatClampNeg x1)))) * (zmo (Int32.toNatClampNeg (zb (Int32.toNatClampNeg x1)))))) then (if ((zle (Int32.toNatClampNeg (za (Int32.toNatClampNeg x1)))) * (zmo (Int32.toNatClampNeg (zb (Int32.toNatClampNeg x1))))) < ((zle (Int32.toNatClampNeg (za (Int32.toNatClampNeg x1)))) * (zle (Int32.toNatClampNeg (zb (Int32.toNatClampNeg x1))))) then ((zle (Int32.toNatClampNeg (za (Int32.toNatClampNeg x1)))) * (zle (Int32.toNatClampNeg (zb (Int32.toNatClampNeg x1))))) else ((zle (Int32.toNatClampNeg (za (Int32.toNatClampNeg x1)))) * (zmo (Int32.toNatClampNeg (zb (Int32.toNatClampNeg x1)))))) else (if ((zmo (Int32.toNatClampNeg (za (Int32.toNatClampNeg x1)))) * (zmo (Int32.toNatClampNeg (zb (Int32.toNatClampNeg x1))))) < ((zmo (Int32.toNatClampNeg (za (Int32.toNatClampNeg x1)))) * (zle (Int32.toNatClampNeg (zb (Int32.toNatClampNeg x1))))) then ((zmo (Int32.toNatClampNeg (za (Int32.toNatClampNeg x1)))) * (zle (Int32.toNatClampNeg (zb (Int32.toNatClampNeg x1))))) else ((zmo (Int32.toNatClampNeg (za (Int32.toNatClampNeg x1)))) * (zmo (Int32.toNatClampNeg (zb (Int32.toNatClampNeg x1))))))) u4 hu4 _) (cwV 3 hts gX8_products_X8_ends rfl rfl rfl (by decide +kernel) ⟨by decide, by decide⟩) hP hD (ci := 8) (q0 := 0) rfl rfl rfl hl.1 rfl (Nat.le_of_ble_eq_true rfl) dX8_products_138) hD hS (fun H locs hP hD hS => ?_)
  obtain ⟨g_5, hres⟩ := mi_g hres
  obtain rfl := Option.some.inj hres
  exact ret_I (r := u4.1) C0 (narrow_z (Decidable.not_not.mp g_5)) hP hD hS dX8_products_141
/-! ### SumsOverModel.belows(I)Z -/
set_option maxRecDepth 20000 in
theorem hwX8_belows_RX8 : ∀ w ∈ u_ws RX8 TX8 26, w ∈ wsX8_belows := by decide +kernel
theorem mwX8_belows_0 : (.fieldLink RX8 13 "SumsOverModel" "isSigned" "[Z" : Cond) ∈ wsX8_belows := by decide +kernel
theorem mwX8_belows_1 : (.fieldLink RX8 29 "SumsOverModel" "a" "[I" : Cond) ∈ wsX8_belows := by decide +kernel
theorem mwX8_belows_2 : (.fieldLink RX8 32 "SumsOverModel" "b" "[I" : Cond) ∈ wsX8_belows := by decide +kernel
theorem mwX8_belows_3 : (.fieldLink RX8 63 "SumsOverModel" "most" "[J" : Cond) ∈ wsX8_belows := by decide +kernel
theorem mwX8_belows_4 : (.fieldLink RX8 60 "SumsOverModel" "least" "[J" : Cond) ∈ wsX8_belows := by decide +kernel
theorem mwX8_belows_5 : (.fieldLink RX8 26 "SumsOverModel" "target" "[I" : Cond) ∈ wsX8_belows := by decide +kernel
def rmX8_belows : Room := { frames := 3, cells := 0, slots := 0, locals := 74 }
def iX8_belows_L74 (p : Program) (l : Launch) (e : Env) (s : State) (m : MethodId) (args : Array Value) (below : List Frame) (meth : Method) (c : Code) (A : Nat → Prop) (dC : Nat → ClassId) (dI : Nat → Nat → Nat) (q : Nat → Nat) (cI cJ cZ : ClassId) (zn : Int32) (zm : Int32) (zj : Int32) (zf : Int32) (zr : Int32) (zw : Nat → Int32) (zs : Nat → Int32) (zfr : Nat → Int32) (zto : Nat → Int32) (zk : Nat → Int32) (zt : Nat → Int32) (za : Nat → Int32) (zb : Nat → Int32) (zq : Nat → Int32) (zl : Nat → Int32) (zv : Nat → Int64) (zo : Nat → Int32) (zu : Nat → Int32) (zov : Nat → Int32) (ztu : Nat → Int32) (zsh : Nat → Int32) (zc : Nat → Int32) (zlo : Nat → Int64) (zhi : Nat → Int64)  (RES : Int32 × (Nat → Int64) × (Nat → Int64)) (k : (Nat → Int64) → (Nat → Int64) → (Int32) → (Int32) → Option (Int32 × (Nat → Int64) × (Nat → Int64))) : Prop := ∀ (zle : Nat → Int64) (zmo : Nat → Int64) (x1 : Int32) (x2 : Int32) (H : Heap) (locs : List Loc) (ls : Array Slot), va_P (dC, dI) vwCl (wM q cI cJ cZ zn zm zj zf zr zw zs zfr zto zk zt za zb zq zl zv zo zu zov ztu zsh zle zmo zc zlo zhi) H → va_D A (wM q cI cJ cZ zn zm zj zf zr zw zs zfr zto zk zt za zb zq zl zv zo zu zov ztu zsh zle zmo zc zlo zhi) → va_S A s.heap H locs → lv_has ls 3 [(0, .ref (q 0)), (1, .int x1), (2, .int x2)] → k zle zmo x1 x2 = some RES → W p l e rmX8_belows s m args below meth c H locs 0 0 (QI below args s A (dC, dI) (ty3 cI cJ cZ) RES.1 (wM q cI cJ cZ zn zm zj zf zr zw zs zfr zto zk zt za zb zq zl zv zo zu zov ztu zsh RES.2.1 RES.2.2 zc zlo zhi)) (F0 m 74 ls [])
def iX8_belows_L30 (p : Program) (l : Launch) (e : Env) (s : State) (m : MethodId) (args : Array Value) (below : List Frame) (meth : Method) (c : Code) (A : Nat → Prop) (dC : Nat → ClassId) (dI : Nat → Nat → Nat) (q : Nat → Nat) (cI cJ cZ : ClassId) (zn : Int32) (zm : Int32) (zj : Int32) (zf : Int32) (zr : Int32) (zw : Nat → Int32) (zs : Nat → Int32) (zfr : Nat → Int32) (zto : Nat → Int32) (zk : Nat → Int32) (zt : Nat → Int32) (za : Nat → Int32) (zb : Nat → Int32) (zq : Nat → Int32) (zl : Nat → Int32) (zv : Nat → Int64) (zo : Nat → Int32) (zu : Nat → Int32) (zov : Nat → Int32) (ztu : Nat → Int32) (zsh : Nat → Int32) (zc : Nat → Int32) (zlo : Nat → Int64) (zhi : Nat → Int64)  (RES : Int32 × (Nat → Int64) × (Nat → Int64)) (k : (Nat → Int64) → (Nat → Int64) → (Int32) → (Int32) → Option (Int32 × (Nat → Int64) × (Nat → Int64))) : Prop := ∀ (zle : Nat → Int64) (zmo : Nat → Int64) (x1 : Int32) (t0 : Int32) (H : Heap) (locs : List Loc) (ls : Array Slot), va_P (dC, dI) vwCl (wM q cI cJ cZ zn zm zj zf zr zw zs zfr zto zk zt za zb zq zl zv zo zu zov ztu zsh zle zmo zc zlo zhi) H → va_D A (wM q cI cJ cZ zn zm zj zf zr zw zs zfr zto zk zt za zb zq zl zv zo zu zov ztu zsh zle zmo zc zlo zhi) → va_S A s.heap H locs → lv_has ls 3 [(0, .ref (q 0)), (1, .int x1)] → k zle zmo x1 t0 = some RES → W p l e rmX8_belows s m args below meth c H locs 0 0 (QI below args s A (dC, dI) (ty3 cI cJ cZ) RES.1 (wM q cI cJ cZ zn zm zj zf zr zw zs zfr zto zk zt za zb zq zl zv zo zu zov ztu zsh RES.2.1 RES.2.2 zc zlo zhi)) (F0 m 30 ls [.int t0])
set_option maxHeartbeats 4000000 in
set_option maxRecDepth 100000 in
theorem zX8_belows_L74 {p : Program} {l : Launch} {e : Env} {s : State} {m : MethodId} {args : Array Value} {below : List Frame} {meth : Method} {c : Code} {A : Nat → Prop} {dC : Nat → ClassId} {dI : Nat → Nat → Nat} {q : Nat → Nat} {cI cJ cZ : ClassId} {zn : Int32} {zm : Int32} {zj : Int32} {zf : Int32} {zr : Int32} {zw : Nat → Int32} {zs : Nat → Int32} {zfr : Nat → Int32} {zto : Nat → Int32} {zk : Nat → Int32} {zt : Nat → Int32} {za : Nat → Int32} {zb : Nat → Int32} {zq : Nat → Int32} {zl : Nat → Int32} {zv : Nat → Int64} {zo : Nat → Int32} {zu : Nat → Int32} {zov : Nat → Int32} {ztu : Nat → Int32} {zsh : Nat → Int32} {zc : Nat → Int32} {zlo : Nat → Int64} {zhi : Nat → Int64}  (C0 : Cx p s m args meth c cX8_belows 3 (some .boolean) RX8 wsX8_belows A (dC, dI) (ty3 cI cJ cZ)) {RES : Int32 × (Nat → Int64) × (Nat → Int64)}  : iX8_belows_L74 p l e s m args below meth c A dC dI q cI cJ cZ zn zm zj zf zr zw zs zfr zto zk zt za zb zq zl zv zo zu zov ztu zsh zc zlo zhi RES (mX8_belows_L74 zm zw zs zt za zb) := by
  have C1 := C0
  obtain ⟨hx, hb, hr, hml, hown, hts, hlocks, hN, hK, hA⟩ := C1
  intro zle zmo x1 x2 H locs ls hP hD hS hl hres
  unfold mX8_belows_L74 at hres
  refine lv_iload_n hx hb dX8_belows_74 rfl (lv_at hl 2 rfl) ?_
  refine lv_if_eq (tgt := 119) hx hb dX8_belows_75 (by decide) (fun c_12 => ?_) (fun c_12 => ?_)
  · replace hres := mi_p c_12 hres
    refine lv_aload_n hx hb dX8_belows_119 rfl (lv_at hl 0 rfl) ?_
    refine lv_aload_n hx hb dX8_belows_120 rfl (lv_at hl 0 rfl) ?_
    refine va_get (D := (dC, dI)) (ci := 8) (v := .ref (q 6)) (C := RX8) (T := TX8) (N := 26) hx hb hts hwX8_belows_RX8 hown hK hP 0 rfl rfl 5 (by decide) (hts _ mwX8_belows_5) (fun _ h9 => h9) rfl dX8_belows_121 ?_
    refine lv_iload_n hx hb dX8_belows_124 rfl (lv_at hl 1 rfl) ?_
    obtain ⟨g_13, hres⟩ := mi_g hres
    refine va_iald (D := (dC, dI)) (cl := vwCl) hx hb hK hP 6 0 rfl rfl g_13 dX8_belows_125 ?_
    refine lv_lconst (v := (0 : Int64)) hx hb dX8_belows_126 (by decide) ?_
    refine lv_lconst (v := (1 : Int64)) hx hb dX8_belows_127 (by decide) ?_
    obtain ⟨u14, hu14, hres⟩ := mi_b hres
    refine call_I C0 (run_V C0 (rest := []) (kX8_ends l dC dI q cI cJ cZ zn zm zj zf zr zw zs zfr zto zk zt za zb zq zl zv zo zu zov ztu zsh zle zmo zc zlo zhi  (zt (Int32.toNatClampNeg x1)) (0 : Int64) (1 : Int64) u14 hu14 _) (cwV 3 hts gX8_belows_X8_ends rfl rfl rfl (by decide +kernel) ⟨by decide, by decide⟩) hP hD (ci := 8) (q0 := 0) rfl rfl rfl hl.1 rfl (Nat.le_of_ble_eq_true rfl) dX8_belows_128) hD hS (fun H locs hP hD hS => ?_)
    obtain ⟨g_15, hres⟩ := mi_g hres
    obtain rfl := Option.some.inj hres
    exact ret_I (r := u14.1) C0 (narrow_z (Decidable.not_not.mp g_15)) hP hD hS dX8_belows_131
  · replace hres := mi_n c_12 hres
    refine lv_aload_n hx hb dX8_belows_78 rfl (lv_at hl 0 rfl) ?_
    refine va_get (D := (dC, dI)) (ci := 8) (v := .ref (q 17)) (C := RX8) (T := TX8) (N := 26) hx hb hts hwX8_belows_RX8 hown hK hP 0 rfl rfl 21 (by decide) (hts _ mwX8_belows_4) (fun _ h9 => h9) rfl dX8_belows_79 ?_
    refine lv_aload_n hx hb dX8_belows_82 rfl (lv_at hl 0 rfl) ?_
    refine va_get (D := (dC, dI)) (ci := 8) (v := .ref (q 7)) (C := RX8) (T := TX8) (N := 26) hx hb hts hwX8_belows_RX8 hown hK hP 0 rfl rfl 6 (by decide) (hts _ mwX8_belows_1) (fun _ h9 => h9) rfl dX8_belows_83 ?_
    refine lv_iload_n hx hb dX8_belows_86 rfl (lv_at hl 1 rfl) ?_
    obtain ⟨g_16, hres⟩ := mi_g hres
    refine va_iald (D := (dC, dI)) (cl := vwCl) hx hb hK hP 7 0 rfl rfl g_16 dX8_belows_87 ?_
    obtain ⟨g_17, hres⟩ := mi_g hres
    refine va_lald (D := (dC, dI)) (cl := vwCl) hx hb hK hP 17 1 rfl rfl g_17 dX8_belows_88 ?_
    refine lv_aload_n hx hb dX8_belows_89 rfl (lv_at hl 0 rfl) ?_
    refine va_get (D := (dC, dI)) (ci := 8) (v := .ref (q 18)) (C := RX8) (T := TX8) (N := 26) hx hb hts hwX8_belows_RX8 hown hK hP 0 rfl rfl 22 (by decide) (hts _ mwX8_belows_3) (fun _ h9 => h9) rfl dX8_belows_90 ?_
    refine lv_aload_n hx hb dX8_belows_93 rfl (lv_at hl 0 rfl) ?_
    refine va_get (D := (dC, dI)) (ci := 8) (v := .ref (q 8)) (C := RX8) (T := TX8) (N := 26) hx hb hts hwX8_belows_RX8 hown hK hP 0 rfl rfl 7 (by decide) (hts _ mwX8_belows_2) (fun _ h9 => h9) rfl dX8_belows_94 ?_
    refine lv_iload_n hx hb dX8_belows_97 rfl (lv_at hl 1 rfl) ?_
    refine va_iald (D := (dC, dI)) (cl := vwCl) hx hb hK hP 8 0 rfl rfl g_16 dX8_belows_98 ?_
    obtain ⟨g_18, hres⟩ := mi_g hres
    refine va_lald (D := (dC, dI)) (cl := vwCl) hx hb hK hP 18 1 rfl rfl g_18 dX8_belows_99 ?_
    refine W.lcmp hx hb dX8_belows_100 ?_
    refine lv_if_lt (tgt := 119) hx hb dX8_belows_101 (by decide) (fun c_19 => ?_) (fun c_19 => ?_)
    · rw [lg_cmp_lt] at c_19
      replace hres := mi_p c_19 hres
      refine lv_aload_n hx hb dX8_belows_119 rfl (lv_at hl 0 rfl) ?_
      refine lv_aload_n hx hb dX8_belows_120 rfl (lv_at hl 0 rfl) ?_
      refine va_get (D := (dC, dI)) (ci := 8) (v := .ref (q 6)) (C := RX8) (T := TX8) (N := 26) hx hb hts hwX8_belows_RX8 hown hK hP 0 rfl rfl 5 (by decide) (hts _ mwX8_belows_5) (fun _ h9 => h9) rfl dX8_belows_121 ?_
      refine lv_iload_n hx hb dX8_belows_124 rfl (lv_at hl 1 rfl) ?_
      refine va_iald (D := (dC, dI)) (cl := vwCl) hx hb hK hP 6 0 rfl rfl g_16 dX8_belows_125 ?_
      refine lv_lconst (v := (0 : Int64)) hx hb dX8_belows_126 (by decide) ?_
      refine lv_lconst (v := (1 : Int64)) hx hb dX8_belows_127 (by decide) ?_
      obtain ⟨u20, hu20, hres⟩ := mi_b hres
      refine call_I C0 (run_V C0 (rest := []) (kX8_ends l dC dI q cI cJ cZ zn zm zj zf zr zw zs zfr zto zk zt za zb zq zl zv zo zu zov ztu zsh zle zmo zc zlo zhi  (zt (Int32.toNatClampNeg x1)) (0 : Int64) (1 : Int64) u20 hu20 _) (cwV 3 hts gX8_belows_X8_ends rfl rfl rfl (by decide +kernel) ⟨by decide, by decide⟩) hP hD (ci := 8) (q0 := 0) rfl rfl rfl hl.1 rfl (Nat.le_of_ble_eq_true rfl) dX8_belows_128) hD hS (fun H locs hP hD hS => ?_)
      obtain ⟨g_21, hres⟩ := mi_g hres
      obtain rfl := Option.some.inj hres
      exact ret_I (r := u20.1) C0 (narrow_z (Decidable.not_not.mp g_21)) hP hD hS dX8_belows_131
    · rw [lg_cmp_lt] at c_19
      replace hres := mi_n c_19 hres
      refine lv_aload_n hx hb dX8_belows_104 rfl (lv_at hl 0 rfl) ?_
      refine lv_aload_n hx hb dX8_belows_105 rfl (lv_at hl 0 rfl) ?_
      refine va_get (D := (dC, dI)) (ci := 8) (v := .ref (q 6)) (C := RX8) (T := TX8) (N := 26) hx hb hts hwX8_belows_RX8 hown hK hP 0 rfl rfl 5 (by decide) (hts _ mwX8_belows_5) (fun _ h9 => h9) rfl dX8_belows_106 ?_
      refine lv_iload_n hx hb dX8_belows_109 rfl (lv_at hl 1 rfl) ?_
      refine va_iald (D := (dC, dI)) (cl := vwCl) hx hb hK hP 6 0 rfl rfl g_16 dX8_belows_110 ?_
      refine lv_lconst (v := (0 : Int64)) hx hb dX8_belows_111 (by decide) ?_
      refine lv_lconst (v := (0 : Int64)) hx hb dX8_belows_112 (by decide) ?_
      obtain ⟨u22, hu22, hres⟩ := mi_b hres
      refine call_I C0 (run_V C0 (rest := []) (kX8_ends l dC dI q cI cJ cZ zn zm zj zf zr zw zs zfr zto zk zt za zb zq zl zv zo zu zov ztu zsh zle zmo zc zlo zhi  (zt (Int32.toNatClampNeg x1)) (0 : Int64) (0 : Int64) u22 hu22 _) (cwV 3 hts gX8_belows_X8_ends rfl rfl rfl (by decide +kernel) ⟨by decide, by decide⟩) hP hD (ci := 8) (q0 := 0) rfl rfl rfl hl.1 rfl (Nat.le_of_ble_eq_true rfl) dX8_belows_113) hD hS (fun H locs hP hD hS => ?_)
      refine lv_goto (tgt := 131) hx hb dX8_belows_116 (by decide) ?_
      obtain ⟨g_23, hres⟩ := mi_g hres
      obtain rfl := Option.some.inj hres
      exact ret_I (r := u22.1) C0 (narrow_z (Decidable.not_not.mp g_23)) hP hD hS dX8_belows_131
set_option maxHeartbeats 4000000 in
set_option maxRecDepth 100000 in
theorem zX8_belows_L30 {p : Program} {l : Launch} {e : Env} {s : State} {m : MethodId} {args : Array Value} {below : List Frame} {meth : Method} {c : Code} {A : Nat → Prop} {dC : Nat → ClassId} {dI : Nat → Nat → Nat} {q : Nat → Nat} {cI cJ cZ : ClassId} {zn : Int32} {zm : Int32} {zj : Int32} {zf : Int32} {zr : Int32} {zw : Nat → Int32} {zs : Nat → Int32} {zfr : Nat → Int32} {zto : Nat → Int32} {zk : Nat → Int32} {zt : Nat → Int32} {za : Nat → Int32} {zb : Nat → Int32} {zq : Nat → Int32} {zl : Nat → Int32} {zv : Nat → Int64} {zo : Nat → Int32} {zu : Nat → Int32} {zov : Nat → Int32} {ztu : Nat → Int32} {zsh : Nat → Int32} {zc : Nat → Int32} {zlo : Nat → Int64} {zhi : Nat → Int64}  (C0 : Cx p s m args meth c cX8_belows 3 (some .boolean) RX8 wsX8_belows A (dC, dI) (ty3 cI cJ cZ)) {RES : Int32 × (Nat → Int64) × (Nat → Int64)}  : iX8_belows_L30 p l e s m args below meth c A dC dI q cI cJ cZ zn zm zj zf zr zw zs zfr zto zk zt za zb zq zl zv zo zu zov ztu zsh zc zlo zhi RES (mX8_belows_L30 zm zw zs zt za zb) := by
  have C1 := C0
  obtain ⟨hx, hb, hr, hml, hown, hts, hlocks, hN, hK, hA⟩ := C1
  intro zle zmo x1 t0 H locs ls hP hD hS hl hres
  unfold mX8_belows_L30 at hres
  refine lv_istore_n (lv' := [(2, .int t0), (0, .ref (q 0)), (1, .int x1)]) hx hb dX8_belows_30 rfl hl (by decide) rfl (fun ls hl => ?_)
  refine lv_iload_n hx hb dX8_belows_31 rfl (lv_at hl 0 rfl) ?_
  refine lv_if_eq (tgt := 74) hx hb dX8_belows_32 (by decide) (fun c_5 => ?_) (fun c_5 => ?_)
  · replace hres := mi_p c_5 hres
    exact zX8_belows_L74 C0  zle zmo x1 t0 _ _ ls hP hD hS (lv_sub hl [1, 2, 0] rfl) hres
  · replace hres := mi_n c_5 hres
    refine lv_aload_n hx hb dX8_belows_35 rfl (lv_at hl 1 rfl) ?_
    refine va_get (D := (dC, dI)) (ci := 8) (v := .ref (q 18)) (C := RX8) (T := TX8) (N := 26) hx hb hts hwX8_belows_RX8 hown hK hP 0 rfl rfl 22 (by decide) (hts _ mwX8_belows_3) (fun _ h9 => h9) rfl dX8_belows_36 ?_
    refine lv_aload_n hx hb dX8_belows_39 rfl (lv_at hl 1 rfl) ?_
    refine va_get (D := (dC, dI)) (ci := 8) (v := .ref (q 7)) (C := RX8) (T := TX8) (N := 26) hx hb hts hwX8_belows_RX8 hown hK hP 0 rfl rfl 6 (by decide) (hts _ mwX8_belows_1) (fun _ h9 => h9) rfl dX8_belows_40 ?_
    refine lv_iload_n hx hb dX8_belows_43 rfl (lv_at hl 2 rfl) ?_
    obtain ⟨g_6, hres⟩ := mi_g hres
    refine va_iald (D := (dC, dI)) (cl := vwCl) hx hb hK hP 7 0 rfl rfl g_6 dX8_belows_44 ?_
    obtain ⟨g_7, hres⟩ := mi_g hres
    refine va_lald (D := (dC, dI)) (cl := vwCl) hx hb hK hP 18 1 rfl rfl g_7 dX8_belows_45 ?_
    refine lv_aload_n hx hb dX8_belows_46 rfl (lv_at hl 1 rfl) ?_
    refine va_get (D := (dC, dI)) (ci := 8) (v := .ref (q 17)) (C := RX8) (T := TX8) (N := 26) hx hb hts hwX8_belows_RX8 hown hK hP 0 rfl rfl 21 (by decide) (hts _ mwX8_belows_4) (fun _ h9 => h9) rfl dX8_belows_47 ?_
    refine lv_aload_n hx hb dX8_belows_50 rfl (lv_at hl 1 rfl) ?_
    refine va_get (D := (dC, dI)) (ci := 8) (v := .ref (q 8)) (C := RX8) (T := TX8) (N := 26) hx hb hts hwX8_belows_RX8 hown hK hP 0 rfl rfl 7 (by decide) (hts _ mwX8_belows_2) (fun _ h9 => h9) rfl dX8_belows_51 ?_
    refine lv_iload_n hx hb dX8_belows_54 rfl (lv_at hl 2 rfl) ?_
    refine va_iald (D := (dC, dI)) (cl := vwCl) hx hb hK hP 8 0 rfl rfl g_6 dX8_belows_55 ?_
    obtain ⟨g_8, hres⟩ := mi_g hres
    refine va_lald (D := (dC, dI)) (cl := vwCl) hx hb hK hP 17 1 rfl rfl g_8 dX8_belows_56 ?_
    refine W.lcmp hx hb dX8_belows_57 ?_
    refine lv_if_ge (tgt := 74) hx hb dX8_belows_58 (by decide) (fun c_9 => ?_) (fun c_9 => ?_)
    · rw [lg_cmp_ge] at c_9
      replace hres := mi_p c_9 hres
      exact zX8_belows_L74 C0  zle zmo x1 t0 _ _ ls hP hD hS (lv_sub hl [1, 2, 0] rfl) hres
    · rw [lg_cmp_ge] at c_9
      replace hres := mi_n c_9 hres
      refine lv_aload_n hx hb dX8_belows_61 rfl (lv_at hl 1 rfl) ?_
      refine lv_aload_n hx hb dX8_belows_62 rfl (lv_at hl 1 rfl) ?_
      refine va_get (D := (dC, dI)) (ci := 8) (v := .ref (q 6)) (C := RX8) (T := TX8) (N := 26) hx hb hts hwX8_belows_RX8 hown hK hP 0 rfl rfl 5 (by decide) (hts _ mwX8_belows_5) (fun _ h9 => h9) rfl dX8_belows_63 ?_
      refine lv_iload_n hx hb dX8_belows_66 rfl (lv_at hl 2 rfl) ?_
      refine va_iald (D := (dC, dI)) (cl := vwCl) hx hb hK hP 6 0 rfl rfl g_6 dX8_belows_67 ?_
      refine lv_lconst (v := (1 : Int64)) hx hb dX8_belows_68 (by decide) ?_
      refine lv_lconst (v := (1 : Int64)) hx hb dX8_belows_69 (by decide) ?_
      obtain ⟨u10, hu10, hres⟩ := mi_b hres
      refine call_I C0 (run_V C0 (rest := []) (kX8_ends l dC dI q cI cJ cZ zn zm zj zf zr zw zs zfr zto zk zt za zb zq zl zv zo zu zov ztu zsh zle zmo zc zlo zhi  (zt (Int32.toNatClampNeg x1)) (1 : Int64) (1 : Int64) u10 hu10 _) (cwV 3 hts gX8_belows_X8_ends rfl rfl rfl (by decide +kernel) ⟨by decide, by decide⟩) hP hD (ci := 8) (q0 := 0) rfl rfl rfl hl.1 rfl (Nat.le_of_ble_eq_true rfl) dX8_belows_70) hD hS (fun H locs hP hD hS => ?_)
      obtain ⟨g_11, hres⟩ := mi_g hres
      obtain rfl := Option.some.inj hres
      exact ret_I (r := u10.1) C0 (narrow_z (Decidable.not_not.mp g_11)) hP hD hS dX8_belows_73
set_option maxHeartbeats 4000000 in
set_option maxRecDepth 100000 in
theorem kX8_belows (l : Launch) (dC : Nat → ClassId) (dI : Nat → Nat → Nat) (q : Nat → Nat) (cI cJ cZ : ClassId) (zn : Int32) (zm : Int32) (zj : Int32) (zf : Int32) (zr : Int32) (zw : Nat → Int32) (zs : Nat → Int32) (zfr : Nat → Int32) (zto : Nat → Int32) (zk : Nat → Int32) (zt : Nat → Int32) (za : Nat → Int32) (zb : Nat → Int32) (zq : Nat → Int32) (zl : Nat → Int32) (zv : Nat → Int64) (zo : Nat → Int32) (zu : Nat → Int32) (zov : Nat → Int32) (ztu : Nat → Int32) (zsh : Nat → Int32) (zle : Nat → Int64) (zmo : Nat → Int64) (zc : Nat → Int32) (zlo : Nat → Int64) (zhi : Nat → Int64) (x1 : Int32) (RES : Int32 × (Nat → Int64) × (Nat → Int64)) (hres : mX8_belows zm zw zs zt za zb zle zmo x1 = some RES) : CtI l yX8_belows wsX8_belows rmX8_belows (dC, dI) (ty3 cI cJ cZ) (wM q cI cJ cZ zn zm zj zf zr zw zs zfr zto zk zt za zb zq zl zv zo zu zov ztu zsh zle zmo zc zlo zhi) [.ref (q 0), .int x1] RES.1 (wM q cI cJ cZ zn zm zj zf zr zw zs zfr zto zk zt za zb zq zl zv zo zu zov ztu zsh RES.2.1 RES.2.2 zc zlo zhi) := by
  intro sz
  refine ct_entry (cc := cX8_belows) (maxL := 3) (ret := some .boolean) (own := RX8) (by decide) rfl rfl (Nat.le_of_ble_eq_true rfl) (ll := [(0, .ref (q 0)), (1, .int x1)]) rfl ?_
  intro p e s m args below meth c hsz C0 _ hP hD ls hl
  have C1 := C0
  obtain ⟨hx, hb, hr, hml, hown, hts, hlocks, hN, hK, hA⟩ := C1
  have hS : va_S (va_A (wM q cI cJ cZ zn zm zj zf zr zw zs zfr zto zk zt za zb zq zl zv zo zu zov ztu zsh zle zmo zc zlo zhi) sz) s.heap s.heap [] := va_S.rf
  generalize va_A (wM q cI cJ cZ zn zm zj zf zr zw zs zfr zto zk zt za zb zq zl zv zo zu zov ztu zsh zle zmo zc zlo zhi) sz = A at C0 hD hA hS ⊢
  show W p l e rmX8_belows s m args below meth c s.heap [] 0 0 (QI below args s A (dC, dI) (ty3 cI cJ cZ) RES.1 (wM q cI cJ cZ zn zm zj zf zr zw zs zfr zto zk zt za zb zq zl zv zo zu zov ztu zsh RES.2.1 RES.2.2 zc zlo zhi)) (F0 m 0 ls [])
  unfold mX8_belows at hres
  refine lv_aload_n hx hb dX8_belows_0 rfl (lv_at hl 0 rfl) ?_
  refine va_get (D := (dC, dI)) (ci := 8) (v := .ref (q 2)) (C := RX8) (T := TX8) (N := 26) hx hb hts hwX8_belows_RX8 hown hK hP 0 rfl rfl 1 (by decide) (hts _ mwX8_belows_0) (fun _ h9 => h9) rfl dX8_belows_1 ?_
  refine lv_aload_n hx hb dX8_belows_4 rfl (lv_at hl 0 rfl) ?_
  refine va_get (D := (dC, dI)) (ci := 8) (v := .ref (q 7)) (C := RX8) (T := TX8) (N := 26) hx hb hts hwX8_belows_RX8 hown hK hP 0 rfl rfl 6 (by decide) (hts _ mwX8_belows_1) (fun _ h9 => h9) rfl dX8_belows_5 ?_
  refine lv_iload_n hx hb dX8_belows_8 rfl (lv_at hl 1 rfl) ?_
  obtain ⟨g_1, hres⟩ := mi_g hres
  refine va_iald (D := (dC, dI)) (cl := vwCl) hx hb hK hP 7 0 rfl rfl g_1 dX8_belows_9 ?_
  obtain ⟨g_2, hres⟩ := mi_g hres
  refine va_zald (D := (dC, dI)) (cl := vwCl) hx hb hK hP 2 2 rfl rfl g_2 dX8_belows_10 ?_
  refine lv_aload_n hx hb dX8_belows_11 rfl (lv_at hl 0 rfl) ?_
  refine va_get (D := (dC, dI)) (ci := 8) (v := .ref (q 2)) (C := RX8) (T := TX8) (N := 26) hx hb hts hwX8_belows_RX8 hown hK hP 0 rfl rfl 1 (by decide) (hts _ mwX8_belows_0) (fun _ h9 => h9) rfl dX8_belows_12 ?_
  refine lv_aload_n hx hb dX8_belows_15 rfl (lv_at hl 0 rfl) ?_
  refine va_get (D := (dC, dI)) (ci := 8) (v := .ref (q 8)) (C := RX8) (T := TX8) (N := 26) hx hb hts hwX8_belows_RX8 hown hK hP 0 rfl rfl 7 (by decide) (hts _ mwX8_belows_2) (fun _ h9 => h9) rfl dX8_belows_16 ?_
  refine lv_iload_n hx hb dX8_belows_19 rfl (lv_at hl 1 rfl) ?_
  refine va_iald (D := (dC, dI)) (cl := vwCl) hx hb hK hP 8 0 rfl rfl g_1 dX8_belows_20 ?_
  obtain ⟨g_3, hres⟩ := mi_g hres
  refine va_zald (D := (dC, dI)) (cl := vwCl) hx hb hK hP 2 2 rfl rfl g_3 dX8_belows_21 ?_
  refine lv_icmp_ne (tgt := 29) hx hb dX8_belows_22 (by decide) (fun c_4 => ?_) (fun c_4 => ?_)
  · replace hres := mi_n c_4 hres
    refine lv_iconst (v := (0 : Int32)) hx hb dX8_belows_29 (by decide) ?_
    exact zX8_belows_L30 C0  zle zmo x1 (0 : Int32) _ _ ls hP hD hS (lv_sub hl [0, 1] rfl) hres
  · replace hres := mi_p c_4 hres
    refine lv_iconst (v := (1 : Int32)) hx hb dX8_belows_25 (by decide) ?_
    refine lv_goto (tgt := 30) hx hb dX8_belows_26 (by decide) ?_
    exact zX8_belows_L30 C0  zle zmo x1 (1 : Int32) _ _ ls hP hD hS (lv_sub hl [0, 1] rfl) hres
