/-! ### SumsOverModel.needOf(I)I -/
set_option maxRecDepth 20000 in
theorem hwX8_needOf_RX8 : ∀ w ∈ u_ws RX8 TX8 26, w ∈ wsX8_needOf := by decide +kernel
theorem mwX8_needOf_0 : (.fieldLink RX8 13 "SumsOverModel" "isSigned" "[Z" : Cond) ∈ wsX8_needOf := by decide +kernel
theorem mwX8_needOf_1 : (.fieldLink RX8 69 "SumsOverModel" "lowest" "[J" : Cond) ∈ wsX8_needOf := by decide +kernel
theorem mwX8_needOf_2 : (.fieldLink RX8 72 "SumsOverModel" "highest" "[J" : Cond) ∈ wsX8_needOf := by decide +kernel
def rmX8_needOf : Room := { frames := 0, cells := 0, slots := 0, locals := 0 }
def iX8_needOf_L27 (p : Program) (l : Launch) (e : Env) (s : State) (m : MethodId) (args : Array Value) (below : List Frame) (meth : Method) (c : Code) (A : Nat → Prop) (dC : Nat → ClassId) (dI : Nat → Nat → Nat) (q : Nat → Nat) (cI cJ cZ : ClassId) (zn : Int32) (zm : Int32) (zj : Int32) (zf : Int32) (zr : Int32) (zw : Nat → Int32) (zs : Nat → Int32) (zfr : Nat → Int32) (zto : Nat → Int32) (zk : Nat → Int32) (zt : Nat → Int32) (za : Nat → Int32) (zb : Nat → Int32) (zq : Nat → Int32) (zl : Nat → Int32) (zv : Nat → Int64) (zo : Nat → Int32) (zu : Nat → Int32) (zov : Nat → Int32) (ztu : Nat → Int32) (zsh : Nat → Int32) (zle : Nat → Int64) (zmo : Nat → Int64) (zc : Nat → Int32) (zlo : Nat → Int64) (zhi : Nat → Int64)  (RES : Int32) (k : (Int32) → (Int32) → (Int64) → Option (Int32)) : Prop := ∀ (x1 : Int32) (x2 : Int32) (t0 : Int64) (H : Heap) (locs : List Loc) (ls : Array Slot), va_P (dC, dI) vwCl (wM q cI cJ cZ zn zm zj zf zr zw zs zfr zto zk zt za zb zq zl zv zo zu zov ztu zsh zle zmo zc zlo zhi) H → va_D A (wM q cI cJ cZ zn zm zj zf zr zw zs zfr zto zk zt za zb zq zl zv zo zu zov ztu zsh zle zmo zc zlo zhi) → va_S A s.heap H locs → lv_has ls 7 [(0, .ref (q 0)), (1, .int x1), (2, .int x2)] → k x1 x2 t0 = some RES → W p l e rmX8_needOf s m args below meth c H locs 0 0 (QI below args s A (dC, dI) (ty3 cI cJ cZ) RES (wM q cI cJ cZ zn zm zj zf zr zw zs zfr zto zk zt za zb zq zl zv zo zu zov ztu zsh zle zmo zc zlo zhi)) (F0 m 27 ls [.long t0])
def iX8_needOf_L2 (p : Program) (l : Launch) (e : Env) (s : State) (m : MethodId) (args : Array Value) (below : List Frame) (meth : Method) (c : Code) (A : Nat → Prop) (dC : Nat → ClassId) (dI : Nat → Nat → Nat) (q : Nat → Nat) (cI cJ cZ : ClassId) (zn : Int32) (zm : Int32) (zj : Int32) (zf : Int32) (zr : Int32) (zw : Nat → Int32) (zs : Nat → Int32) (zfr : Nat → Int32) (zto : Nat → Int32) (zk : Nat → Int32) (zt : Nat → Int32) (za : Nat → Int32) (zb : Nat → Int32) (zq : Nat → Int32) (zl : Nat → Int32) (zv : Nat → Int64) (zo : Nat → Int32) (zu : Nat → Int32) (zov : Nat → Int32) (ztu : Nat → Int32) (zsh : Nat → Int32) (zle : Nat → Int64) (zmo : Nat → Int64) (zc : Nat → Int32) (zlo : Nat → Int64) (zhi : Nat → Int64)  (RES : Int32) (k : (Int32) → (Int32) → Option (Int32)) : Prop := ∀ (x1 : Int32) (x2 : Int32) (H : Heap) (locs : List Loc) (ls : Array Slot), va_P (dC, dI) vwCl (wM q cI cJ cZ zn zm zj zf zr zw zs zfr zto zk zt za zb zq zl zv zo zu zov ztu zsh zle zmo zc zlo zhi) H → va_D A (wM q cI cJ cZ zn zm zj zf zr zw zs zfr zto zk zt za zb zq zl zv zo zu zov ztu zsh zle zmo zc zlo zhi) → va_S A s.heap H locs → lv_has ls 7 [(0, .ref (q 0)), (1, .int x1), (2, .int x2)] → k x1 x2 = some RES → W p l e rmX8_needOf s m args below meth c H locs 0 0 (QI below args s A (dC, dI) (ty3 cI cJ cZ) RES (wM q cI cJ cZ zn zm zj zf zr zw zs zfr zto zk zt za zb zq zl zv zo zu zov ztu zsh zle zmo zc zlo zhi)) (F0 m 2 ls [])
set_option maxHeartbeats 4000000 in
set_option maxRecDepth 100000 in
theorem zX8_needOf_L27 {p : Program} {l : Launch} {e : Env} {s : State} {m : MethodId} {args : Array Value} {below : List Frame} {meth : Method} {c : Code} {A : Nat → Prop} {dC : Nat → ClassId} {dI : Nat → Nat → Nat} {q : Nat → Nat} {cI cJ cZ : ClassId} {zn : Int32} {zm : Int32} {zj : Int32} {zf : Int32} {zr : Int32} {zw : Nat → Int32} {zs : Nat → Int32} {zfr : Nat → Int32} {zto : Nat → Int32} {zk : Nat → Int32} {zt : Nat → Int32} {za : Nat → Int32} {zb : Nat → Int32} {zq : Nat → Int32} {zl : Nat → Int32} {zv : Nat → Int64} {zo : Nat → Int32} {zu : Nat → Int32} {zov : Nat → Int32} {ztu : Nat → Int32} {zsh : Nat → Int32} {zle : Nat → Int64} {zmo : Nat → Int64} {zc : Nat → Int32} {zlo : Nat → Int64} {zhi : Nat → Int64}  (C0 : Cx p s m args meth c cX8_needOf 7 (some .int) RX8 wsX8_needOf A (dC, dI) (ty3 cI cJ cZ)) {RES : Int32} {k2 : (Int32) → (Int32) → Option (Int32)} (hk2 : iX8_needOf_L2 p l e s m args below meth c A dC dI q cI cJ cZ zn zm zj zf zr zw zs zfr zto zk zt za zb zq zl zv zo zu zov ztu zsh zle zmo zc zlo zhi RES k2) : iX8_needOf_L27 p l e s m args below meth c A dC dI q cI cJ cZ zn zm zj zf zr zw zs zfr zto zk zt za zb zq zl zv zo zu zov ztu zsh zle zmo zc zlo zhi RES (mX8_needOf_L27 zs zlo zhi k2) := by
  have C1 := C0
  obtain ⟨hx, hb, hr, hml, hown, hts, hlocks, hN, hK, hA⟩ := C1
  intro x1 x2 t0 H locs ls hP hD hS hl hres
  unfold mX8_needOf_L27 at hres
  refine lv_lstore_n (lv' := [(3, .long t0), (0, .ref (q 0)), (1, .int x1), (2, .int x2)]) hx hb dX8_needOf_27 rfl hl (by decide) rfl (fun ls hl => ?_)
  refine lv_lconst (v := (1 : Int64)) hx hb dX8_needOf_28 (by decide) ?_
  refine lv_aload_n hx hb dX8_needOf_29 rfl (lv_at hl 1 rfl) ?_
  refine va_get (D := (dC, dI)) (ci := 8) (v := .ref (q 2)) (C := RX8) (T := TX8) (N := 26) hx hb hts hwX8_needOf_RX8 hown hK hP 0 rfl rfl 1 (by decide) (hts _ mwX8_needOf_0) (fun _ h9 => h9) rfl dX8_needOf_30 ?_
  refine lv_iload_n hx hb dX8_needOf_33 rfl (lv_at hl 2 rfl) ?_
  obtain ⟨g_4, hres⟩ := mi_g hres
  refine va_zald (D := (dC, dI)) (cl := vwCl) hx hb hK hP 2 2 rfl rfl g_4 dX8_needOf_34 ?_
  refine lv_if_eq (tgt := 44) hx hb dX8_needOf_35 (by decide) (fun c_5 => ?_) (fun c_5 => ?_)
  · replace hres := mi_p c_5 hres
    refine lv_iload_n hx hb dX8_needOf_44 rfl (lv_at hl 3 rfl) ?_
    refine lv_lshl (v := ((1 : Int64) <<< ((x2).toInt64 &&& 63))) hx hb dX8_needOf_45 rfl ?_
    refine lv_lconst (v := (1 : Int64)) hx hb dX8_needOf_46 (by decide) ?_
    refine lv_lsub hx hb dX8_needOf_47 ?_
    refine lv_lstore (lv' := [(5, .long (((1 : Int64) <<< ((x2).toInt64 &&& 63)) - (1 : Int64))), (3, .long t0), (0, .ref (q 0)), (1, .int x1), (2, .int x2)]) hx hb dX8_needOf_48 hl (by decide) rfl (fun ls hl => ?_)
    refine lv_aload_n hx hb dX8_needOf_50 rfl (lv_at hl 2 rfl) ?_
    refine va_get (D := (dC, dI)) (ci := 8) (v := .ref (q 20)) (C := RX8) (T := TX8) (N := 26) hx hb hts hwX8_needOf_RX8 hown hK hP 0 rfl rfl 24 (by decide) (hts _ mwX8_needOf_1) (fun _ h9 => h9) rfl dX8_needOf_51 ?_
    refine lv_iload_n hx hb dX8_needOf_54 rfl (lv_at hl 3 rfl) ?_
    refine va_lald (D := (dC, dI)) (cl := vwCl) hx hb hK hP 20 1 rfl rfl g_4 dX8_needOf_55 ?_
    refine lv_lload_n hx hb dX8_needOf_56 rfl (lv_at hl 1 rfl) ?_
    refine W.lcmp hx hb dX8_needOf_57 ?_
    refine lv_if_lt (tgt := 75) hx hb dX8_needOf_58 (by decide) (fun c_6 => ?_) (fun c_6 => ?_)
    · rw [lg_cmp_lt] at c_6
      replace hres := mi_p c_6 hres
      refine lv_iinc (v := x2 + (1 : Int32)) (lv' := [(2, .int (x2 + (1 : Int32))), (5, .long (((1 : Int64) <<< ((x2).toInt64 &&& 63)) - (1 : Int64))), (3, .long t0), (0, .ref (q 0)), (1, .int x1)]) hx hb dX8_needOf_75 hl (k := 4) rfl rfl (by decide) rfl (fun ls hl => ?_)
      refine lv_goto (tgt := 2) hx hb dX8_needOf_78 (by decide) ?_
      exact hk2 x1 (x2 + (1 : Int32)) _ _ ls hP hD hS (lv_sub hl [3, 4, 0] rfl) hres
    · rw [lg_cmp_lt] at c_6
      replace hres := mi_n c_6 hres
      refine lv_aload_n hx hb dX8_needOf_61 rfl (lv_at hl 2 rfl) ?_
      refine va_get (D := (dC, dI)) (ci := 8) (v := .ref (q 21)) (C := RX8) (T := TX8) (N := 26) hx hb hts hwX8_needOf_RX8 hown hK hP 0 rfl rfl 25 (by decide) (hts _ mwX8_needOf_2) (fun _ h9 => h9) rfl dX8_needOf_62 ?_
      refine lv_iload_n hx hb dX8_needOf_65 rfl (lv_at hl 3 rfl) ?_
      refine va_lald (D := (dC, dI)) (cl := vwCl) hx hb hK hP 21 1 rfl rfl g_4 dX8_needOf_66 ?_
      refine lv_lload hx hb dX8_needOf_67 (lv_at hl 0 rfl) ?_
      refine W.lcmp hx hb dX8_needOf_69 ?_
      refine lv_if_gt (tgt := 75) hx hb dX8_needOf_70 (by decide) (fun c_7 => ?_) (fun c_7 => ?_)
      · rw [lg_cmp_gt] at c_7
        replace hres := mi_p c_7 hres
        refine lv_iinc (v := x2 + (1 : Int32)) (lv' := [(2, .int (x2 + (1 : Int32))), (5, .long (((1 : Int64) <<< ((x2).toInt64 &&& 63)) - (1 : Int64))), (3, .long t0), (0, .ref (q 0)), (1, .int x1)]) hx hb dX8_needOf_75 hl (k := 4) rfl rfl (by decide) rfl (fun ls hl => ?_)
        refine lv_goto (tgt := 2) hx hb dX8_needOf_78 (by decide) ?_
        exact hk2 x1 (x2 + (1 : Int32)) _ _ ls hP hD hS (lv_sub hl [3, 4, 0] rfl) hres
      · rw [lg_cmp_gt] at c_7
        replace hres := mi_n c_7 hres
        refine lv_iload_n hx hb dX8_needOf_73 rfl (lv_at hl 4 rfl) ?_
        obtain rfl := Option.some.inj hres
        exact ret_I (r := x2) C0 rfl hP hD hS dX8_needOf_74
  · replace hres := mi_n c_5 hres
    refine lv_iload_n hx hb dX8_needOf_38 rfl (lv_at hl 3 rfl) ?_
    refine lv_iconst (v := (1 : Int32)) hx hb dX8_needOf_39 (by decide) ?_
    refine lv_isub hx hb dX8_needOf_40 ?_
    refine lv_goto (tgt := 45) hx hb dX8_needOf_41 (by decide) ?_
    refine lv_lshl (v := ((1 : Int64) <<< (((x2 - (1 : Int32))).toInt64 &&& 63))) hx hb dX8_needOf_45 rfl ?_
    refine lv_lconst (v := (1 : Int64)) hx hb dX8_needOf_46 (by decide) ?_
    refine lv_lsub hx hb dX8_needOf_47 ?_
    refine lv_lstore (lv' := [(5, .long (((1 : Int64) <<< (((x2 - (1 : Int32))).toInt64 &&& 63)) - (1 : Int64))), (3, .long t0), (0, .ref (q 0)), (1, .int x1), (2, .int x2)]) hx hb dX8_needOf_48 hl (by decide) rfl (fun ls hl => ?_)
    refine lv_aload_n hx hb dX8_needOf_50 rfl (lv_at hl 2 rfl) ?_
    refine va_get (D := (dC, dI)) (ci := 8) (v := .ref (q 20)) (C := RX8) (T := TX8) (N := 26) hx hb hts hwX8_needOf_RX8 hown hK hP 0 rfl rfl 24 (by decide) (hts _ mwX8_needOf_1) (fun _ h9 => h9) rfl dX8_needOf_51 ?_
    refine lv_iload_n hx hb dX8_needOf_54 rfl (lv_at hl 3 rfl) ?_
    refine va_lald (D := (dC, dI)) (cl := vwCl) hx hb hK hP 20 1 rfl rfl g_4 dX8_needOf_55 ?_
    refine lv_lload_n hx hb dX8_needOf_56 rfl (lv_at hl 1 rfl) ?_
    refine W.lcmp hx hb dX8_needOf_57 ?_
    refine lv_if_lt (tgt := 75) hx hb dX8_needOf_58 (by decide) (fun c_8 => ?_) (fun c_8 => ?_)
    · rw [lg_cmp_lt] at c_8
      replace hres := mi_p c_8 hres
      refine lv_iinc (v := x2 + (1 : Int32)) (lv' := [(2, .int (x2 + (1 : Int32))), (5, .long (((1 : Int64) <<< (((x2 - (1 : Int32))).toInt64 &&& 63)) - (1 : Int64))), (3, .long t0), (0, .ref (q 0)), (1, .int x1)]) hx hb dX8_needOf_75 hl (k := 4) rfl rfl (by decide) rfl (fun ls hl => ?_)
      refine lv_goto (tgt := 2) hx hb dX8_needOf_78 (by decide) ?_
      exact hk2 x1 (x2 + (1 : Int32)) _ _ ls hP hD hS (lv_sub hl [3, 4, 0] rfl) hres
    · rw [lg_cmp_lt] at c_8
      replace hres := mi_n c_8 hres
      refine lv_aload_n hx hb dX8_needOf_61 rfl (lv_at hl 2 rfl) ?_
      refine va_get (D := (dC, dI)) (ci := 8) (v := .ref (q 21)) (C := RX8) (T := TX8) (N := 26) hx hb hts hwX8_needOf_RX8 hown hK hP 0 rfl rfl 25 (by decide) (hts _ mwX8_needOf_2) (fun _ h9 => h9) rfl dX8_needOf_62 ?_
      refine lv_iload_n hx hb dX8_needOf_65 rfl (lv_at hl 3 rfl) ?_
      refine va_lald (D := (dC, dI)) (cl := vwCl) hx hb hK hP 21 1 rfl rfl g_4 dX8_needOf_66 ?_
      refine lv_lload hx hb dX8_needOf_67 (lv_at hl 0 rfl) ?_
      refine W.lcmp hx hb dX8_needOf_69 ?_
      refine lv_if_gt (tgt := 75) hx hb dX8_needOf_70 (by decide) (fun c_9 => ?_) (fun c_9 => ?_)
      · rw [lg_cmp_gt] at c_9
        replace hres := mi_p c_9 hres
        refine lv_iinc (v := x2 + (1 : Int32)) (lv' := [(2, .int (x2 + (1 : Int32))), (5, .long (((1 : Int64) <<< (((x2 - (1 : Int32))).toInt64 &&& 63)) - (1 : Int64))), (3, .long t0), (0, .ref (q 0)), (1, .int x1)]) hx hb dX8_needOf_75 hl (k := 4) rfl rfl (by decide) rfl (fun ls hl => ?_)
        refine lv_goto (tgt := 2) hx hb dX8_needOf_78 (by decide) ?_
        exact hk2 x1 (x2 + (1 : Int32)) _ _ ls hP hD hS (lv_sub hl [3, 4, 0] rfl) hres
      · rw [lg_cmp_gt] at c_9
        replace hres := mi_n c_9 hres
        refine lv_iload_n hx hb dX8_needOf_73 rfl (lv_at hl 4 rfl) ?_
        obtain rfl := Option.some.inj hres
        exact ret_I (r := x2) C0 rfl hP hD hS dX8_needOf_74
set_option maxHeartbeats 4000000 in
set_option maxRecDepth 100000 in
theorem zX8_needOf_L2 {p : Program} {l : Launch} {e : Env} {s : State} {m : MethodId} {args : Array Value} {below : List Frame} {meth : Method} {c : Code} {A : Nat → Prop} {dC : Nat → ClassId} {dI : Nat → Nat → Nat} {q : Nat → Nat} {cI cJ cZ : ClassId} {zn : Int32} {zm : Int32} {zj : Int32} {zf : Int32} {zr : Int32} {zw : Nat → Int32} {zs : Nat → Int32} {zfr : Nat → Int32} {zto : Nat → Int32} {zk : Nat → Int32} {zt : Nat → Int32} {za : Nat → Int32} {zb : Nat → Int32} {zq : Nat → Int32} {zl : Nat → Int32} {zv : Nat → Int64} {zo : Nat → Int32} {zu : Nat → Int32} {zov : Nat → Int32} {ztu : Nat → Int32} {zsh : Nat → Int32} {zle : Nat → Int64} {zmo : Nat → Int64} {zc : Nat → Int32} {zlo : Nat → Int64} {zhi : Nat → Int64}  (C0 : Cx p s m args meth c cX8_needOf 7 (some .int) RX8 wsX8_needOf A (dC, dI) (ty3 cI cJ cZ)) {RES : Int32}  : ∀ n : Nat, iX8_needOf_L2 p l e s m args below meth c A dC dI q cI cJ cZ zn zm zj zf zr zw zs zfr zto zk zt za zb zq zl zv zo zu zov ztu zsh zle zmo zc zlo zhi RES (mX8_needOf_L2 zs zlo zhi n) := by
  have C1 := C0
  obtain ⟨hx, hb, hr, hml, hown, hts, hlocks, hN, hK, hA⟩ := C1
  intro n
  induction n with
  | zero =>
    intro x1 x2 H locs ls hP hD hS hl hres
    exact mi_0 hres
  | succ n ih =>
    intro x1 x2 H locs ls hP hD hS hl hres
    rw [mX8_needOf_L2] at hres
    refine lv_iload_n hx hb dX8_needOf_2 rfl (lv_at hl 2 rfl) ?_
    refine lv_bipush (v := (31 : Int32)) hx hb dX8_needOf_3 (by decide) ?_
    refine lv_icmp_gt (tgt := 81) hx hb dX8_needOf_5 (by decide) (fun c_1 => ?_) (fun c_1 => ?_)
    · replace hres := mi_p c_1 hres
      refine lv_iconst (v := (-1 : Int32)) hx hb dX8_needOf_81 (by decide) ?_
      obtain rfl := Option.some.inj hres
      exact ret_I (r := (-1 : Int32)) C0 rfl hP hD hS dX8_needOf_82
    · replace hres := mi_n c_1 hres
      refine lv_aload_n hx hb dX8_needOf_8 rfl (lv_at hl 0 rfl) ?_
      refine va_get (D := (dC, dI)) (ci := 8) (v := .ref (q 2)) (C := RX8) (T := TX8) (N := 26) hx hb hts hwX8_needOf_RX8 hown hK hP 0 rfl rfl 1 (by decide) (hts _ mwX8_needOf_0) (fun _ h9 => h9) rfl dX8_needOf_9 ?_
      refine lv_iload_n hx hb dX8_needOf_12 rfl (lv_at hl 1 rfl) ?_
      obtain ⟨g_2, hres⟩ := mi_g hres
      refine va_zald (D := (dC, dI)) (cl := vwCl) hx hb hK hP 2 2 rfl rfl g_2 dX8_needOf_13 ?_
      refine lv_if_eq (tgt := 26) hx hb dX8_needOf_14 (by decide) (fun c_3 => ?_) (fun c_3 => ?_)
      · replace hres := mi_p c_3 hres
        refine lv_lconst (v := (0 : Int64)) hx hb dX8_needOf_26 (by decide) ?_
        exact zX8_needOf_L27 C0 ih x1 x2 (0 : Int64) _ _ ls hP hD hS (lv_sub hl [0, 1, 2] rfl) hres
      · replace hres := mi_n c_3 hres
        refine lv_lconst (v := (1 : Int64)) hx hb dX8_needOf_17 (by decide) ?_
        refine lv_iload_n hx hb dX8_needOf_18 rfl (lv_at hl 2 rfl) ?_
        refine lv_iconst (v := (1 : Int32)) hx hb dX8_needOf_19 (by decide) ?_
        refine lv_isub hx hb dX8_needOf_20 ?_
        refine lv_lshl (v := ((1 : Int64) <<< (((x2 - (1 : Int32))).toInt64 &&& 63))) hx hb dX8_needOf_21 rfl ?_
        refine lv_lneg hx hb dX8_needOf_22 ?_
        refine lv_goto (tgt := 27) hx hb dX8_needOf_23 (by decide) ?_
        exact zX8_needOf_L27 C0 ih x1 x2 (-((1 : Int64) <<< (((x2 - (1 : Int32))).toInt64 &&& 63))) _ _ ls hP hD hS (lv_sub hl [0, 1, 2] rfl) hres
set_option maxHeartbeats 4000000 in
set_option maxRecDepth 100000 in
theorem kX8_needOf (l : Launch) (dC : Nat → ClassId) (dI : Nat → Nat → Nat) (q : Nat → Nat) (cI cJ cZ : ClassId) (zn : Int32) (zm : Int32) (zj : Int32) (zf : Int32) (zr : Int32) (zw : Nat → Int32) (zs : Nat → Int32) (zfr : Nat → Int32) (zto : Nat → Int32) (zk : Nat → Int32) (zt : Nat → Int32) (za : Nat → Int32) (zb : Nat → Int32) (zq : Nat → Int32) (zl : Nat → Int32) (zv : Nat → Int64) (zo : Nat → Int32) (zu : Nat → Int32) (zov : Nat → Int32) (ztu : Nat → Int32) (zsh : Nat → Int32) (zle : Nat → Int64) (zmo : Nat → Int64) (zc : Nat → Int32) (zlo : Nat → Int64) (zhi : Nat → Int64) (x1 : Int32) (RES : Int32) (hres : mX8_needOf zs zlo zhi x1 = some RES) : CtI l yX8_needOf wsX8_needOf rmX8_needOf (dC, dI) (ty3 cI cJ cZ) (wM q cI cJ cZ zn zm zj zf zr zw zs zfr zto zk zt za zb zq zl zv zo zu zov ztu zsh zle zmo zc zlo zhi) [.ref (q 0), .int x1] RES (wM q cI cJ cZ zn zm zj zf zr zw zs zfr zto zk zt za zb zq zl zv zo zu zov ztu zsh zle zmo zc zlo zhi) := by
  intro sz
  refine ct_entry (cc := cX8_needOf) (maxL := 7) (ret := some .int) (own := RX8) (by decide) rfl rfl (Nat.le_of_ble_eq_true rfl) (ll := [(0, .ref (q 0)), (1, .int x1)]) rfl ?_
  intro p e s m args below meth c hsz C0 _ hP hD ls hl
  have C1 := C0
  obtain ⟨hx, hb, hr, hml, hown, hts, hlocks, hN, hK, hA⟩ := C1
  have hS : va_S (va_A (wM q cI cJ cZ zn zm zj zf zr zw zs zfr zto zk zt za zb zq zl zv zo zu zov ztu zsh zle zmo zc zlo zhi) sz) s.heap s.heap [] := va_S.rf
  generalize va_A (wM q cI cJ cZ zn zm zj zf zr zw zs zfr zto zk zt za zb zq zl zv zo zu zov ztu zsh zle zmo zc zlo zhi) sz = A at C0 hD hA hS ⊢
  show W p l e rmX8_needOf s m args below meth c s.heap [] 0 0 (QI below args s A (dC, dI) (ty3 cI cJ cZ) RES (wM q cI cJ cZ zn zm zj zf zr zw zs zfr zto zk zt za zb zq zl zv zo zu zov ztu zsh zle zmo zc zlo zhi)) (F0 m 0 ls [])
  unfold mX8_needOf at hres
  refine lv_iconst (v := (2 : Int32)) hx hb dX8_needOf_0 (by decide) ?_
  refine lv_istore_n (lv' := [(2, .int (2 : Int32)), (0, .ref (q 0)), (1, .int x1)]) hx hb dX8_needOf_1 rfl hl (by decide) rfl (fun ls hl => ?_)
  exact zX8_needOf_L2 C0  FU x1 (2 : Int32) _ _ ls hP hD hS (lv_sub hl [1, 2, 0] rfl) hres
/-! ### SumsOverModel.need(I)I -/
def rmX8_need : Room := { frames := 5, cells := 0, slots := 0, locals := 122 }
set_option maxHeartbeats 4000000 in
set_option maxRecDepth 100000 in
theorem kX8_need (l : Launch) (dC : Nat → ClassId) (dI : Nat → Nat → Nat) (q : Nat → Nat) (cI cJ cZ : ClassId) (zn : Int32) (zm : Int32) (zj : Int32) (zf : Int32) (zr : Int32) (zw : Nat → Int32) (zs : Nat → Int32) (zfr : Nat → Int32) (zto : Nat → Int32) (zk : Nat → Int32) (zt : Nat → Int32) (za : Nat → Int32) (zb : Nat → Int32) (zq : Nat → Int32) (zl : Nat → Int32) (zv : Nat → Int64) (zo : Nat → Int32) (zu : Nat → Int32) (zov : Nat → Int32) (ztu : Nat → Int32) (zsh : Nat → Int32) (zle : Nat → Int64) (zmo : Nat → Int64) (zc : Nat → Int32) (zlo : Nat → Int64) (zhi : Nat → Int64) (x1 : Int32) (RES : Int32 × (Int32) × (Nat → Int32) × (Nat → Int64) × (Nat → Int64) × (Nat → Int64)) (hres : mX8_need zn zj zw zs zfr zto zk zt za zb zl zv zlo zhi x1 = some RES) : CtI l yX8_need wsX8_need rmX8_need (dC, dI) (ty3 cI cJ cZ) (wM q cI cJ cZ zn zm zj zf zr zw zs zfr zto zk zt za zb zq zl zv zo zu zov ztu zsh zle zmo zc zlo zhi) [.ref (q 0), .int x1] RES.1 (wM q cI cJ cZ zn zm RES.2.1 zf zr zw zs zfr zto zk zt za zb zq RES.2.2.1 RES.2.2.2.1 zo zu zov ztu zsh zle zmo zc RES.2.2.2.2.1 RES.2.2.2.2.2) := by
  intro sz
  refine ct_entry (cc := cX8_need) (maxL := 2) (ret := some .int) (own := RX8) (by decide) rfl rfl (Nat.le_of_ble_eq_true rfl) (ll := [(0, .ref (q 0)), (1, .int x1)]) rfl ?_
  intro p e s m args below meth c hsz C0 _ hP hD ls hl
  have C1 := C0
  obtain ⟨hx, hb, hr, hml, hown, hts, hlocks, hN, hK, hA⟩ := C1
  have hS : va_S (va_A (wM q cI cJ cZ zn zm zj zf zr zw zs zfr zto zk zt za zb zq zl zv zo zu zov ztu zsh zle zmo zc zlo zhi) sz) s.heap s.heap [] := va_S.rf
  generalize va_A (wM q cI cJ cZ zn zm zj zf zr zw zs zfr zto zk zt za zb zq zl zv zo zu zov ztu zsh zle zmo zc zlo zhi) sz = A at C0 hD hA hS ⊢
  show W p l e rmX8_need s m args below meth c s.heap [] 0 0 (QI below args s A (dC, dI) (ty3 cI cJ cZ) RES.1 (wM q cI cJ cZ zn zm RES.2.1 zf zr zw zs zfr zto zk zt za zb zq RES.2.2.1 RES.2.2.2.1 zo zu zov ztu zsh zle zmo zc RES.2.2.2.2.1 RES.2.2.2.2.2)) (F0 m 0 ls [])
  unfold mX8_need at hres
  refine lv_iload_n hx hb dX8_need_0 rfl (lv_at hl 1 rfl) ?_
  obtain ⟨u1, hu1, hres⟩ := mi_b hres
  refine call_I C0 (run_S C0 (rest := []) (kX8_isName l (dC, dI) (ty3 cI cJ cZ) (wM q cI cJ cZ zn zm zj zf zr zw zs zfr zto zk zt za zb zq zl zv zo zu zov ztu zsh zle zmo zc zlo zhi) x1 u1 hu1 _) (va_cwS 1 hts gX8_need_X8_isName rfl rfl rfl (by decide +kernel) ⟨by decide, by decide⟩) hP hD rfl hl.1 rfl (Nat.le_of_ble_eq_true rfl) dX8_need_1) hD hS (fun H locs hP hD hS => ?_)
  refine lv_if_eq (tgt := 22) hx hb dX8_need_4 (by decide) (fun c_2 => ?_) (fun c_2 => ?_)
  · replace hres := mi_p c_2 hres
    refine lv_iconst (v := (-1 : Int32)) hx hb dX8_need_22 (by decide) ?_
    obtain rfl := Option.some.inj hres
    exact ret_I (r := (-1 : Int32)) C0 rfl hP hD hS dX8_need_23
  · replace hres := mi_n c_2 hres
    refine lv_aload_n hx hb dX8_need_7 rfl (lv_at hl 0 rfl) ?_
    obtain ⟨u3, hu3, hres⟩ := mi_b hres
    refine call_I C0 (run_V C0 (rest := []) (kX8_needs l dC dI q cI cJ cZ zn zm zj zf zr zw zs zfr zto zk zt za zb zq zl zv zo zu zov ztu zsh zle zmo zc zlo zhi   u3 hu3 _) (cwV 0 hts gX8_need_X8_needs rfl rfl rfl (by decide +kernel) ⟨by decide, by decide⟩) hP hD (ci := 8) (q0 := 0) rfl rfl rfl hl.1 rfl (Nat.le_of_ble_eq_true rfl) dX8_need_8) hD hS (fun H locs hP hD hS => ?_)
    refine lv_if_eq (tgt := 22) hx hb dX8_need_11 (by decide) (fun c_4 => ?_) (fun c_4 => ?_)
    · replace hres := mi_p c_4 hres
      refine lv_iconst (v := (-1 : Int32)) hx hb dX8_need_22 (by decide) ?_
      obtain rfl := Option.some.inj hres
      exact ret_I (r := (-1 : Int32)) C0 rfl hP hD hS dX8_need_23
    · replace hres := mi_n c_4 hres
      refine lv_aload_n hx hb dX8_need_14 rfl (lv_at hl 0 rfl) ?_
      refine lv_iload_n hx hb dX8_need_15 rfl (lv_at hl 1 rfl) ?_
      obtain ⟨u5, hu5, hres⟩ := mi_b hres
      refine call_I C0 (run_V C0 (rest := []) (kX8_needOf l dC dI q cI cJ cZ zn zm u3.2.1 zf zr zw zs zfr zto zk zt za zb zq u3.2.2.1 u3.2.2.2.1 zo zu zov ztu zsh zle zmo zc u3.2.2.2.2.1 u3.2.2.2.2.2  x1 u5 hu5 _) (cwV 1 hts gX8_need_X8_needOf rfl rfl rfl (by decide +kernel) ⟨by decide, by decide⟩) hP hD (ci := 8) (q0 := 0) rfl rfl rfl hl.1 rfl (Nat.le_of_ble_eq_true rfl) dX8_need_16) hD hS (fun H locs hP hD hS => ?_)
      refine lv_goto (tgt := 23) hx hb dX8_need_19 (by decide) ?_
      obtain rfl := Option.some.inj hres
      exact ret_I (r := u5) C0 rfl hP hD hS dX8_need_23
/-! ### SumsOverModel.price()I -/
set_option maxRecDepth 20000 in
theorem hwX8_price_RX8 : ∀ w ∈ u_ws RX8 TX8 26, w ∈ wsX8_price := by decide +kernel
theorem mwX8_price_0 : (.fieldLink RX8 9 "SumsOverModel" "width" "[I" : Cond) ∈ wsX8_price := by decide +kernel
theorem mwX8_price_1 : (.methodLink RX8 124 Lib.Math.max.name : Cond) ∈ wsX8_price := by decide +kernel
theorem mwX8_price_2 : (.static Lib.Math.max.name : Cond) ∈ wsX8_price := by decide +kernel
theorem mwX8_price_3 : (.initialized "java/lang/Math" : Cond) ∈ wsX8_price := by decide +kernel
theorem mwX8_price_4 : (.code Lib.Math.max.name Lib.Math.max.code 2 (some .int) : Cond) ∈ wsX8_price := by decide +kernel
def rmX8_price : Room := { frames := 5, cells := 0, slots := 0, locals := 122 }
def iX8_price_L13 (p : Program) (l : Launch) (e : Env) (s : State) (m : MethodId) (args : Array Value) (below : List Frame) (meth : Method) (c : Code) (A : Nat → Prop) (dC : Nat → ClassId) (dI : Nat → Nat → Nat) (q : Nat → Nat) (cI cJ cZ : ClassId) (zn : Int32) (zm : Int32) (zf : Int32) (zr : Int32) (zw : Nat → Int32) (zs : Nat → Int32) (zfr : Nat → Int32) (zto : Nat → Int32) (zk : Nat → Int32) (zt : Nat → Int32) (za : Nat → Int32) (zb : Nat → Int32) (zq : Nat → Int32) (zo : Nat → Int32) (zu : Nat → Int32) (zov : Nat → Int32) (ztu : Nat → Int32) (zsh : Nat → Int32) (zle : Nat → Int64) (zmo : Nat → Int64) (zc : Nat → Int32)  (RES : Int32 × (Int32) × (Nat → Int32) × (Nat → Int64) × (Nat → Int64) × (Nat → Int64)) (k : (Int32) → (Nat → Int32) → (Nat → Int64) → (Nat → Int64) → (Nat → Int64) → (Int32) → (Int32) → Option (Int32 × (Int32) × (Nat → Int32) × (Nat → Int64) × (Nat → Int64) × (Nat → Int64))) : Prop := ∀ (zj : Int32) (zl : Nat → Int32) (zv : Nat → Int64) (zlo : Nat → Int64) (zhi : Nat → Int64) (x1 : Int32) (x2 : Int32) (H : Heap) (locs : List Loc) (ls : Array Slot), va_P (dC, dI) vwCl (wM q cI cJ cZ zn zm zj zf zr zw zs zfr zto zk zt za zb zq zl zv zo zu zov ztu zsh zle zmo zc zlo zhi) H → va_D A (wM q cI cJ cZ zn zm zj zf zr zw zs zfr zto zk zt za zb zq zl zv zo zu zov ztu zsh zle zmo zc zlo zhi) → va_S A s.heap H locs → lv_has ls 4 [(0, .ref (q 0)), (1, .int x1), (2, .int x2)] → k zj zl zv zlo zhi x1 x2 = some RES → W p l e rmX8_price s m args below meth c H locs 0 0 (QI below args s A (dC, dI) (ty3 cI cJ cZ) RES.1 (wM q cI cJ cZ zn zm RES.2.1 zf zr zw zs zfr zto zk zt za zb zq RES.2.2.1 RES.2.2.2.1 zo zu zov ztu zsh zle zmo zc RES.2.2.2.2.1 RES.2.2.2.2.2)) (F0 m 13 ls [])
set_option maxHeartbeats 4000000 in
set_option maxRecDepth 100000 in
theorem zX8_price_L13 {p : Program} {l : Launch} {e : Env} {s : State} {m : MethodId} {args : Array Value} {below : List Frame} {meth : Method} {c : Code} {A : Nat → Prop} {dC : Nat → ClassId} {dI : Nat → Nat → Nat} {q : Nat → Nat} {cI cJ cZ : ClassId} {zn : Int32} {zm : Int32} {zf : Int32} {zr : Int32} {zw : Nat → Int32} {zs : Nat → Int32} {zfr : Nat → Int32} {zto : Nat → Int32} {zk : Nat → Int32} {zt : Nat → Int32} {za : Nat → Int32} {zb : Nat → Int32} {zq : Nat → Int32} {zo : Nat → Int32} {zu : Nat → Int32} {zov : Nat → Int32} {ztu : Nat → Int32} {zsh : Nat → Int32} {zle : Nat → Int64} {zmo : Nat → Int64} {zc : Nat → Int32}  (C0 : Cx p s m args meth c cX8_price 4 (some .int) RX8 wsX8_price A (dC, dI) (ty3 cI cJ cZ)) {RES : Int32 × (Int32) × (Nat → Int32) × (Nat → Int64) × (Nat → Int64) × (Nat → Int64)}  : ∀ n : Nat, iX8_price_L13 p l e s m args below meth c A dC dI q cI cJ cZ zn zm zf zr zw zs zfr zto zk zt za zb zq zo zu zov ztu zsh zle zmo zc RES (mX8_price_L13 zn zw zs zfr zto zk zt za zb n) := by
  have C1 := C0
  obtain ⟨hx, hb, hr, hml, hown, hts, hlocks, hN, hK, hA⟩ := C1
  intro n
  induction n with
  | zero =>
    intro zj zl zv zlo zhi x1 x2 H locs ls hP hD hS hl hres
    exact mi_0 hres
  | succ n ih =>
    intro zj zl zv zlo zhi x1 x2 H locs ls hP hD hS hl hres
    rw [mX8_price_L13] at hres
    refine lv_iload_n hx hb dX8_price_13 rfl (lv_at hl 2 rfl) ?_
    refine lv_bipush (v := (6 : Int32)) hx hb dX8_price_14 (by decide) ?_
    refine lv_icmp_ge (tgt := 53) hx hb dX8_price_16 (by decide) (fun c_3 => ?_) (fun c_3 => ?_)
    · replace hres := mi_p c_3 hres
      refine lv_iload_n hx hb dX8_price_53 rfl (lv_at hl 1 rfl) ?_
      obtain rfl := Option.some.inj hres
      exact ret_I (r := x1) C0 rfl hP hD hS dX8_price_54
    · replace hres := mi_n c_3 hres
      refine lv_aload_n hx hb dX8_price_19 rfl (lv_at hl 0 rfl) ?_
      refine lv_iload_n hx hb dX8_price_20 rfl (lv_at hl 2 rfl) ?_
      obtain ⟨u4, hu4, hres⟩ := mi_b hres
      refine call_I C0 (run_V C0 (rest := []) (kX8_needOf l dC dI q cI cJ cZ zn zm zj zf zr zw zs zfr zto zk zt za zb zq zl zv zo zu zov ztu zsh zle zmo zc zlo zhi  x2 u4 hu4 _) (cwV 1 hts gX8_price_X8_needOf rfl rfl rfl (by decide +kernel) ⟨by decide, by decide⟩) hP hD (ci := 8) (q0 := 0) rfl rfl rfl hl.1 rfl (Nat.le_of_ble_eq_true rfl) dX8_price_21) hD hS (fun H locs hP hD hS => ?_)
      refine lv_istore_n (lv' := [(3, .int u4), (0, .ref (q 0)), (1, .int x1), (2, .int x2)]) hx hb dX8_price_24 rfl hl (by decide) rfl (fun ls hl => ?_)
      refine lv_iload_n hx hb dX8_price_25 rfl (lv_at hl 0 rfl) ?_
      refine lv_iconst (v := (-1 : Int32)) hx hb dX8_price_26 (by decide) ?_
      refine lv_icmp_ne (tgt := 32) hx hb dX8_price_27 (by decide) (fun c_5 => ?_) (fun c_5 => ?_)
      · replace hres := mi_n c_5 hres
        refine lv_iload_n hx hb dX8_price_32 rfl (lv_at hl 2 rfl) ?_
        refine lv_iconst (v := (0 : Int32)) hx hb dX8_price_33 (by decide) ?_
        refine lv_iload_n hx hb dX8_price_34 rfl (lv_at hl 0 rfl) ?_
        refine lv_aload_n hx hb dX8_price_35 rfl (lv_at hl 1 rfl) ?_
        refine va_get (D := (dC, dI)) (ci := 8) (v := .ref (q 1)) (C := RX8) (T := TX8) (N := 26) hx hb hts hwX8_price_RX8 hown hK hP 0 rfl rfl 0 (by decide) (hts _ mwX8_price_0) (fun _ h9 => h9) rfl dX8_price_36 ?_
        refine lv_iload_n hx hb dX8_price_39 rfl (lv_at hl 3 rfl) ?_
        obtain ⟨g_6, hres⟩ := mi_g hres
        refine va_iald (D := (dC, dI)) (cl := vwCl) hx hb hK hP 1 0 rfl rfl g_6 dX8_price_40 ?_
        refine lv_isub hx hb dX8_price_41 ?_
        refine va_mmax hx hb (hml.trans hl.1.symm) hown (hts _ mwX8_price_1) (hts _ mwX8_price_2) (hts _ mwX8_price_3) (hts _ mwX8_price_4) (Nat.le_of_ble_eq_true rfl) (Nat.le_of_ble_eq_true rfl) (Nat.zero_le _) (Nat.zero_le _) dX8_price_42 ?_
        refine lv_iadd hx hb dX8_price_45 ?_
        refine lv_istore_n (lv' := [(1, .int (x1 + (if (0 : Int32) < (u4 - (zw (Int32.toNatClampNeg x2))) then (u4 - (zw (Int32.toNatClampNeg x2))) else (0 : Int32)))), (3, .int u4), (0, .ref (q 0)), (2, .int x2)]) hx hb dX8_price_46 rfl hl (by decide) rfl (fun ls hl => ?_)
        refine lv_iinc (v := x2 + (1 : Int32)) (lv' := [(2, .int (x2 + (1 : Int32))), (1, .int (x1 + (if (0 : Int32) < (u4 - (zw (Int32.toNatClampNeg x2))) then (u4 - (zw (Int32.toNatClampNeg x2))) else (0 : Int32)))), (3, .int u4), (0, .ref (q 0))]) hx hb dX8_price_47 hl (k := 3) rfl rfl (by decide) rfl (fun ls hl => ?_)
        refine lv_goto (tgt := 13) hx hb dX8_price_50 (by decide) ?_
        exact ih zj zl zv zlo zhi (x1 + (if (0 : Int32) < (u4 - (zw (Int32.toNatClampNeg x2))) then (u4 - (zw (Int32.toNatClampNeg x2))) else (0 : Int32))) (x2 + (1 : Int32)) _ _ ls hP hD hS (lv_sub hl [3, 1, 0] rfl) hres
      · replace hres := mi_p c_5 hres
        refine lv_iconst (v := (-1 : Int32)) hx hb dX8_price_30 (by decide) ?_
        obtain rfl := Option.some.inj hres
        exact ret_I (r := (-1 : Int32)) C0 rfl hP hD hS dX8_price_31
set_option maxHeartbeats 4000000 in
set_option maxRecDepth 100000 in
theorem kX8_price (l : Launch) (dC : Nat → ClassId) (dI : Nat → Nat → Nat) (q : Nat → Nat) (cI cJ cZ : ClassId) (zn : Int32) (zm : Int32) (zj : Int32) (zf : Int32) (zr : Int32) (zw : Nat → Int32) (zs : Nat → Int32) (zfr : Nat → Int32) (zto : Nat → Int32) (zk : Nat → Int32) (zt : Nat → Int32) (za : Nat → Int32) (zb : Nat → Int32) (zq : Nat → Int32) (zl : Nat → Int32) (zv : Nat → Int64) (zo : Nat → Int32) (zu : Nat → Int32) (zov : Nat → Int32) (ztu : Nat → Int32) (zsh : Nat → Int32) (zle : Nat → Int64) (zmo : Nat → Int64) (zc : Nat → Int32) (zlo : Nat → Int64) (zhi : Nat → Int64)  (RES : Int32 × (Int32) × (Nat → Int32) × (Nat → Int64) × (Nat → Int64) × (Nat → Int64)) (hres : mX8_price zn zj zw zs zfr zto zk zt za zb zl zv zlo zhi = some RES) : CtI l yX8_price wsX8_price rmX8_price (dC, dI) (ty3 cI cJ cZ) (wM q cI cJ cZ zn zm zj zf zr zw zs zfr zto zk zt za zb zq zl zv zo zu zov ztu zsh zle zmo zc zlo zhi) [.ref (q 0)] RES.1 (wM q cI cJ cZ zn zm RES.2.1 zf zr zw zs zfr zto zk zt za zb zq RES.2.2.1 RES.2.2.2.1 zo zu zov ztu zsh zle zmo zc RES.2.2.2.2.1 RES.2.2.2.2.2) := by
  intro sz
  refine ct_entry (cc := cX8_price) (maxL := 4) (ret := some .int) (own := RX8) (by decide) rfl rfl (Nat.le_of_ble_eq_true rfl) (ll := [(0, .ref (q 0))]) rfl ?_
  intro p e s m args below meth c hsz C0 _ hP hD ls hl
  have C1 := C0
  obtain ⟨hx, hb, hr, hml, hown, hts, hlocks, hN, hK, hA⟩ := C1
  have hS : va_S (va_A (wM q cI cJ cZ zn zm zj zf zr zw zs zfr zto zk zt za zb zq zl zv zo zu zov ztu zsh zle zmo zc zlo zhi) sz) s.heap s.heap [] := va_S.rf
  generalize va_A (wM q cI cJ cZ zn zm zj zf zr zw zs zfr zto zk zt za zb zq zl zv zo zu zov ztu zsh zle zmo zc zlo zhi) sz = A at C0 hD hA hS ⊢
  show W p l e rmX8_price s m args below meth c s.heap [] 0 0 (QI below args s A (dC, dI) (ty3 cI cJ cZ) RES.1 (wM q cI cJ cZ zn zm RES.2.1 zf zr zw zs zfr zto zk zt za zb zq RES.2.2.1 RES.2.2.2.1 zo zu zov ztu zsh zle zmo zc RES.2.2.2.2.1 RES.2.2.2.2.2)) (F0 m 0 ls [])
  unfold mX8_price at hres
  refine lv_aload_n hx hb dX8_price_0 rfl (lv_at hl 0 rfl) ?_
  obtain ⟨u1, hu1, hres⟩ := mi_b hres
  refine call_I C0 (run_V C0 (rest := []) (kX8_needs l dC dI q cI cJ cZ zn zm zj zf zr zw zs zfr zto zk zt za zb zq zl zv zo zu zov ztu zsh zle zmo zc zlo zhi   u1 hu1 _) (cwV 0 hts gX8_price_X8_needs rfl rfl rfl (by decide +kernel) ⟨by decide, by decide⟩) hP hD (ci := 8) (q0 := 0) rfl rfl rfl hl.1 rfl (Nat.le_of_ble_eq_true rfl) dX8_price_1) hD hS (fun H locs hP hD hS => ?_)
  refine lv_if_ne (tgt := 9) hx hb dX8_price_4 (by decide) (fun c_2 => ?_) (fun c_2 => ?_)
  · replace hres := mi_n c_2 hres
    refine lv_iconst (v := (0 : Int32)) hx hb dX8_price_9 (by decide) ?_
    refine lv_istore_n (lv' := [(1, .int (0 : Int32)), (0, .ref (q 0))]) hx hb dX8_price_10 rfl hl (by decide) rfl (fun ls hl => ?_)
    refine lv_iconst (v := (0 : Int32)) hx hb dX8_price_11 (by decide) ?_
    refine lv_istore_n (lv' := [(2, .int (0 : Int32)), (1, .int (0 : Int32)), (0, .ref (q 0))]) hx hb dX8_price_12 rfl hl (by decide) rfl (fun ls hl => ?_)
    exact zX8_price_L13 C0  FU u1.2.1 u1.2.2.1 u1.2.2.2.1 u1.2.2.2.2.1 u1.2.2.2.2.2 (0 : Int32) (0 : Int32) _ _ ls hP hD hS (lv_sub hl [2, 1, 0] rfl) hres
  · replace hres := mi_p c_2 hres
    refine lv_iconst (v := (-1 : Int32)) hx hb dX8_price_7 (by decide) ?_
    obtain rfl := Option.some.inj hres
    exact ret_I (r := (-1 : Int32)) C0 rfl hP hD hS dX8_price_8
/-! ### SumsOverModel.mend()I -/
set_option maxRecDepth 20000 in
theorem hwX8_mend_RX8 : ∀ w ∈ u_ws RX8 TX8 26, w ∈ wsX8_mend := by decide +kernel
theorem mwX8_mend_0 : (.fieldLink RX8 9 "SumsOverModel" "width" "[I" : Cond) ∈ wsX8_mend := by decide +kernel
def rmX8_mend : Room := { frames := 6, cells := 0, slots := 0, locals := 145 }
def iX8_mend_L14 (p : Program) (l : Launch) (e : Env) (s : State) (m : MethodId) (args : Array Value) (below : List Frame) (meth : Method) (c : Code) (A : Nat → Prop) (dC : Nat → ClassId) (dI : Nat → Nat → Nat) (q : Nat → Nat) (cI cJ cZ : ClassId) (zn : Int32) (zm : Int32) (zf : Int32) (zr : Int32) (zs : Nat → Int32) (zfr : Nat → Int32) (zto : Nat → Int32) (zk : Nat → Int32) (zt : Nat → Int32) (za : Nat → Int32) (zb : Nat → Int32) (zq : Nat → Int32) (zo : Nat → Int32) (zu : Nat → Int32) (zov : Nat → Int32) (ztu : Nat → Int32) (zsh : Nat → Int32) (zle : Nat → Int64) (zmo : Nat → Int64) (zc : Nat → Int32)  (RES : Int32 × (Int32) × (Nat → Int32) × (Nat → Int32) × (Nat → Int64) × (Nat → Int64) × (Nat → Int64)) (k : (Int32) → (Nat → Int32) → (Nat → Int32) → (Nat → Int64) → (Nat → Int64) → (Nat → Int64) → (Int32) → (Int32) → Option (Int32 × (Int32) × (Nat → Int32) × (Nat → Int32) × (Nat → Int64) × (Nat → Int64) × (Nat → Int64))) : Prop := ∀ (zj : Int32) (zw : Nat → Int32) (zl : Nat → Int32) (zv : Nat → Int64) (zlo : Nat → Int64) (zhi : Nat → Int64) (x1 : Int32) (x2 : Int32) (H : Heap) (locs : List Loc) (ls : Array Slot), va_P (dC, dI) vwCl (wM q cI cJ cZ zn zm zj zf zr zw zs zfr zto zk zt za zb zq zl zv zo zu zov ztu zsh zle zmo zc zlo zhi) H → va_D A (wM q cI cJ cZ zn zm zj zf zr zw zs zfr zto zk zt za zb zq zl zv zo zu zov ztu zsh zle zmo zc zlo zhi) → va_S A s.heap H locs → lv_has ls 4 [(0, .ref (q 0)), (1, .int x1), (2, .int x2)] → k zj zw zl zv zlo zhi x1 x2 = some RES → W p l e rmX8_mend s m args below meth c H locs 0 0 (QI below args s A (dC, dI) (ty3 cI cJ cZ) RES.1 (wM q cI cJ cZ zn zm RES.2.1 zf zr RES.2.2.1 zs zfr zto zk zt za zb zq RES.2.2.2.1 RES.2.2.2.2.1 zo zu zov ztu zsh zle zmo zc RES.2.2.2.2.2.1 RES.2.2.2.2.2.2)) (F0 m 14 ls [])
set_option maxHeartbeats 4000000 in
set_option maxRecDepth 100000 in
theorem zX8_mend_L14 {p : Program} {l : Launch} {e : Env} {s : State} {m : MethodId} {args : Array Value} {below : List Frame} {meth : Method} {c : Code} {A : Nat → Prop} {dC : Nat → ClassId} {dI : Nat → Nat → Nat} {q : Nat → Nat} {cI cJ cZ : ClassId} {zn : Int32} {zm : Int32} {zf : Int32} {zr : Int32} {zs : Nat → Int32} {zfr : Nat → Int32} {zto : Nat → Int32} {zk : Nat → Int32} {zt : Nat → Int32} {za : Nat → Int32} {zb : Nat → Int32} {zq : Nat → Int32} {zo : Nat → Int32} {zu : Nat → Int32} {zov : Nat → Int32} {ztu : Nat → Int32} {zsh : Nat → Int32} {zle : Nat → Int64} {zmo : Nat → Int64} {zc : Nat → Int32}  (C0 : Cx p s m args meth c cX8_mend 4 (some .int) RX8 wsX8_mend A (dC, dI) (ty3 cI cJ cZ)) {RES : Int32 × (Int32) × (Nat → Int32) × (Nat → Int32) × (Nat → Int64) × (Nat → Int64) × (Nat → Int64)}  : ∀ n : Nat, iX8_mend_L14 p l e s m args below meth c A dC dI q cI cJ cZ zn zm zf zr zs zfr zto zk zt za zb zq zo zu zov ztu zsh zle zmo zc RES (mX8_mend_L14 zn zs zfr zto zk zt za zb n) := by
  have C1 := C0
  obtain ⟨hx, hb, hr, hml, hown, hts, hlocks, hN, hK, hA⟩ := C1
  intro n
  induction n with
  | zero =>
    intro zj zw zl zv zlo zhi x1 x2 H locs ls hP hD hS hl hres
    exact mi_0 hres
  | succ n ih =>
    intro zj zw zl zv zlo zhi x1 x2 H locs ls hP hD hS hl hres
    rw [mX8_mend_L14] at hres
    refine lv_iload_n hx hb dX8_mend_14 rfl (lv_at hl 2 rfl) ?_
    refine lv_bipush (v := (6 : Int32)) hx hb dX8_mend_15 (by decide) ?_
    refine lv_icmp_ge (tgt := 55) hx hb dX8_mend_17 (by decide) (fun c_3 => ?_) (fun c_3 => ?_)
    · replace hres := mi_p c_3 hres
      refine lv_iload_n hx hb dX8_mend_55 rfl (lv_at hl 1 rfl) ?_
      obtain rfl := Option.some.inj hres
      exact ret_I (r := x1) C0 rfl hP hD hS dX8_mend_56
    · replace hres := mi_n c_3 hres
      refine lv_aload_n hx hb dX8_mend_20 rfl (lv_at hl 0 rfl) ?_
      refine lv_iload_n hx hb dX8_mend_21 rfl (lv_at hl 2 rfl) ?_
      obtain ⟨u4, hu4, hres⟩ := mi_b hres
      refine call_I C0 (run_V C0 (rest := []) (kX8_needOf l dC dI q cI cJ cZ zn zm zj zf zr zw zs zfr zto zk zt za zb zq zl zv zo zu zov ztu zsh zle zmo zc zlo zhi  x2 u4 hu4 _) (cwV 1 hts gX8_mend_X8_needOf rfl rfl rfl (by decide +kernel) ⟨by decide, by decide⟩) hP hD (ci := 8) (q0 := 0) rfl rfl rfl hl.1 rfl (Nat.le_of_ble_eq_true rfl) dX8_mend_22) hD hS (fun H locs hP hD hS => ?_)
      refine lv_istore_n (lv' := [(3, .int u4), (0, .ref (q 0)), (1, .int x1), (2, .int x2)]) hx hb dX8_mend_25 rfl hl (by decide) rfl (fun ls hl => ?_)
      refine lv_iload_n hx hb dX8_mend_26 rfl (lv_at hl 0 rfl) ?_
      refine lv_aload_n hx hb dX8_mend_27 rfl (lv_at hl 1 rfl) ?_
      refine va_get (D := (dC, dI)) (ci := 8) (v := .ref (q 1)) (C := RX8) (T := TX8) (N := 26) hx hb hts hwX8_mend_RX8 hown hK hP 0 rfl rfl 0 (by decide) (hts _ mwX8_mend_0) (fun _ h9 => h9) rfl dX8_mend_28 ?_
      refine lv_iload_n hx hb dX8_mend_31 rfl (lv_at hl 3 rfl) ?_
      obtain ⟨g_5, hres⟩ := mi_g hres
      refine va_iald (D := (dC, dI)) (cl := vwCl) hx hb hK hP 1 0 rfl rfl g_5 dX8_mend_32 ?_
      refine lv_icmp_gt (tgt := 39) hx hb dX8_mend_33 (by decide) (fun c_6 => ?_) (fun c_6 => ?_)
      · replace hres := mi_p c_6 hres
        refine lv_aload_n hx hb dX8_mend_39 rfl (lv_at hl 1 rfl) ?_
        refine va_get (D := (dC, dI)) (ci := 8) (v := .ref (q 1)) (C := RX8) (T := TX8) (N := 26) hx hb hts hwX8_mend_RX8 hown hK hP 0 rfl rfl 0 (by decide) (hts _ mwX8_mend_0) (fun _ h9 => h9) rfl dX8_mend_40 ?_
        refine lv_iload_n hx hb dX8_mend_43 rfl (lv_at hl 3 rfl) ?_
        refine lv_iload_n hx hb dX8_mend_44 rfl (lv_at hl 0 rfl) ?_
        refine va_iast (D := (dC, dI)) (cl := vwCl) hx hb hK hP hD hS 1 0 rfl rfl g_5 dX8_mend_45 (fun H locs hP hD hS => ?_)
        have hP : va_P (dC, dI) vwCl (wM q cI cJ cZ zn zm zj zf zr (upd zw (Int32.toNatClampNeg x2) u4) zs zfr zto zk zt za zb zq zl zv zo zu zov ztu zsh zle zmo zc zlo zhi) H := hP
        have hD : va_D A (wM q cI cJ cZ zn zm zj zf zr (upd zw (Int32.toNatClampNeg x2) u4) zs zfr zto zk zt za zb zq zl zv zo zu zov ztu zsh zle zmo zc zlo zhi) := hD
        refine lv_iinc (v := x1 + (1 : Int32)) (lv' := [(1, .int (x1 + (1 : Int32))), (3, .int u4), (0, .ref (q 0)), (2, .int x2)]) hx hb dX8_mend_46 hl (k := 2) rfl rfl (by decide) rfl (fun ls hl => ?_)
        refine lv_iinc (v := x2 + (1 : Int32)) (lv' := [(2, .int (x2 + (1 : Int32))), (1, .int (x1 + (1 : Int32))), (3, .int u4), (0, .ref (q 0))]) hx hb dX8_mend_49 hl (k := 3) rfl rfl (by decide) rfl (fun ls hl => ?_)
        refine lv_goto (tgt := 14) hx hb dX8_mend_52 (by decide) ?_
        exact ih zj (upd zw (Int32.toNatClampNeg x2) u4) zl zv zlo zhi (x1 + (1 : Int32)) (x2 + (1 : Int32)) _ _ ls hP hD hS (lv_sub hl [3, 1, 0] rfl) hres
      · replace hres := mi_n c_6 hres
        refine lv_goto (tgt := 49) hx hb dX8_mend_36 (by decide) ?_
        refine lv_iinc (v := x2 + (1 : Int32)) (lv' := [(2, .int (x2 + (1 : Int32))), (3, .int u4), (0, .ref (q 0)), (1, .int x1)]) hx hb dX8_mend_49 hl (k := 3) rfl rfl (by decide) rfl (fun ls hl => ?_)
        refine lv_goto (tgt := 14) hx hb dX8_mend_52 (by decide) ?_
        exact ih zj zw zl zv zlo zhi x1 (x2 + (1 : Int32)) _ _ ls hP hD hS (lv_sub hl [2, 3, 0] rfl) hres
set_option maxHeartbeats 4000000 in
set_option maxRecDepth 100000 in
theorem kX8_mend (l : Launch) (dC : Nat → ClassId) (dI : Nat → Nat → Nat) (q : Nat → Nat) (cI cJ cZ : ClassId) (zn : Int32) (zm : Int32) (zj : Int32) (zf : Int32) (zr : Int32) (zw : Nat → Int32) (zs : Nat → Int32) (zfr : Nat → Int32) (zto : Nat → Int32) (zk : Nat → Int32) (zt : Nat → Int32) (za : Nat → Int32) (zb : Nat → Int32) (zq : Nat → Int32) (zl : Nat → Int32) (zv : Nat → Int64) (zo : Nat → Int32) (zu : Nat → Int32) (zov : Nat → Int32) (ztu : Nat → Int32) (zsh : Nat → Int32) (zle : Nat → Int64) (zmo : Nat → Int64) (zc : Nat → Int32) (zlo : Nat → Int64) (zhi : Nat → Int64)  (RES : Int32 × (Int32) × (Nat → Int32) × (Nat → Int32) × (Nat → Int64) × (Nat → Int64) × (Nat → Int64)) (hres : mX8_mend zn zj zw zs zfr zto zk zt za zb zl zv zlo zhi = some RES) : CtI l yX8_mend wsX8_mend rmX8_mend (dC, dI) (ty3 cI cJ cZ) (wM q cI cJ cZ zn zm zj zf zr zw zs zfr zto zk zt za zb zq zl zv zo zu zov ztu zsh zle zmo zc zlo zhi) [.ref (q 0)] RES.1 (wM q cI cJ cZ zn zm RES.2.1 zf zr RES.2.2.1 zs zfr zto zk zt za zb zq RES.2.2.2.1 RES.2.2.2.2.1 zo zu zov ztu zsh zle zmo zc RES.2.2.2.2.2.1 RES.2.2.2.2.2.2) := by
  intro sz
  refine ct_entry (cc := cX8_mend) (maxL := 4) (ret := some .int) (own := RX8) (by decide) rfl rfl (Nat.le_of_ble_eq_true rfl) (ll := [(0, .ref (q 0))]) rfl ?_
  intro p e s m args below meth c hsz C0 _ hP hD ls hl
  have C1 := C0
  obtain ⟨hx, hb, hr, hml, hown, hts, hlocks, hN, hK, hA⟩ := C1
  have hS : va_S (va_A (wM q cI cJ cZ zn zm zj zf zr zw zs zfr zto zk zt za zb zq zl zv zo zu zov ztu zsh zle zmo zc zlo zhi) sz) s.heap s.heap [] := va_S.rf
  generalize va_A (wM q cI cJ cZ zn zm zj zf zr zw zs zfr zto zk zt za zb zq zl zv zo zu zov ztu zsh zle zmo zc zlo zhi) sz = A at C0 hD hA hS ⊢
  show W p l e rmX8_mend s m args below meth c s.heap [] 0 0 (QI below args s A (dC, dI) (ty3 cI cJ cZ) RES.1 (wM q cI cJ cZ zn zm RES.2.1 zf zr RES.2.2.1 zs zfr zto zk zt za zb zq RES.2.2.2.1 RES.2.2.2.2.1 zo zu zov ztu zsh zle zmo zc RES.2.2.2.2.2.1 RES.2.2.2.2.2.2)) (F0 m 0 ls [])
  unfold mX8_mend at hres
  refine lv_aload_n hx hb dX8_mend_0 rfl (lv_at hl 0 rfl) ?_
  obtain ⟨u1, hu1, hres⟩ := mi_b hres
  refine call_I C0 (run_V C0 (rest := []) (kX8_price l dC dI q cI cJ cZ zn zm zj zf zr zw zs zfr zto zk zt za zb zq zl zv zo zu zov ztu zsh zle zmo zc zlo zhi   u1 hu1 _) (cwV 0 hts gX8_mend_X8_price rfl rfl rfl (by decide +kernel) ⟨by decide, by decide⟩) hP hD (ci := 8) (q0 := 0) rfl rfl rfl hl.1 rfl (Nat.le_of_ble_eq_true rfl) dX8_mend_1) hD hS (fun H locs hP hD hS => ?_)
  refine lv_iconst (v := (-1 : Int32)) hx hb dX8_mend_4 (by decide) ?_
  refine lv_icmp_ne (tgt := 10) hx hb dX8_mend_5 (by decide) (fun c_2 => ?_) (fun c_2 => ?_)
  · replace hres := mi_n c_2 hres
    refine lv_iconst (v := (0 : Int32)) hx hb dX8_mend_10 (by decide) ?_
    refine lv_istore_n (lv' := [(1, .int (0 : Int32)), (0, .ref (q 0))]) hx hb dX8_mend_11 rfl hl (by decide) rfl (fun ls hl => ?_)
    refine lv_iconst (v := (0 : Int32)) hx hb dX8_mend_12 (by decide) ?_
    refine lv_istore_n (lv' := [(2, .int (0 : Int32)), (1, .int (0 : Int32)), (0, .ref (q 0))]) hx hb dX8_mend_13 rfl hl (by decide) rfl (fun ls hl => ?_)
    exact zX8_mend_L14 C0  FU u1.2.1 zw u1.2.2.1 u1.2.2.2.1 u1.2.2.2.2.1 u1.2.2.2.2.2 (0 : Int32) (0 : Int32) _ _ ls hP hD hS (lv_sub hl [2, 1, 0] rfl) hres
  · replace hres := mi_p c_2 hres
    refine lv_iconst (v := (-1 : Int32)) hx hb dX8_mend_8 (by decide) ?_
    obtain rfl := Option.some.inj hres
    exact ret_I (r := (-1 : Int32)) C0 rfl hP hD hS dX8_mend_9
/-! ### SumsOverModel.mean(IZ)Z -/
set_option maxRecDepth 20000 in
theorem hwX8_mean_RX8 : ∀ w ∈ u_ws RX8 TX8 26, w ∈ wsX8_mean := by decide +kernel
theorem mwX8_mean_0 : (.fieldLink RX8 35 "SumsOverModel" "isMeant" "[Z" : Cond) ∈ wsX8_mean := by decide +kernel
def rmX8_mean : Room := { frames := 2, cells := 0, slots := 0, locals := 46 }
set_option maxHeartbeats 4000000 in
set_option maxRecDepth 100000 in
theorem kX8_mean (l : Launch) (dC : Nat → ClassId) (dI : Nat → Nat → Nat) (q : Nat → Nat) (cI cJ cZ : ClassId) (zn : Int32) (zm : Int32) (zj : Int32) (zf : Int32) (zr : Int32) (zw : Nat → Int32) (zs : Nat → Int32) (zfr : Nat → Int32) (zto : Nat → Int32) (zk : Nat → Int32) (zt : Nat → Int32) (za : Nat → Int32) (zb : Nat → Int32) (zq : Nat → Int32) (zl : Nat → Int32) (zv : Nat → Int64) (zo : Nat → Int32) (zu : Nat → Int32) (zov : Nat → Int32) (ztu : Nat → Int32) (zsh : Nat → Int32) (zle : Nat → Int64) (zmo : Nat → Int64) (zc : Nat → Int32) (zlo : Nat → Int64) (zhi : Nat → Int64) (x1 : Int32) (x2 : Int32) (RES : Int32 × (Nat → Int32)) (hres : mX8_mean zn zq x1 x2 = some RES) : CtI l yX8_mean wsX8_mean rmX8_mean (dC, dI) (ty3 cI cJ cZ) (wM q cI cJ cZ zn zm zj zf zr zw zs zfr zto zk zt za zb zq zl zv zo zu zov ztu zsh zle zmo zc zlo zhi) [.ref (q 0), .int x1, .int x2] RES.1 (wM q cI cJ cZ zn zm zj zf zr zw zs zfr zto zk zt za zb RES.2 zl zv zo zu zov ztu zsh zle zmo zc zlo zhi) := by
  intro sz
  refine ct_entry (cc := cX8_mean) (maxL := 3) (ret := some .boolean) (own := RX8) (by decide) rfl rfl (Nat.le_of_ble_eq_true rfl) (ll := [(0, .ref (q 0)), (1, .int x1), (2, .int x2)]) rfl ?_
  intro p e s m args below meth c hsz C0 _ hP hD ls hl
  have C1 := C0
  obtain ⟨hx, hb, hr, hml, hown, hts, hlocks, hN, hK, hA⟩ := C1
  have hS : va_S (va_A (wM q cI cJ cZ zn zm zj zf zr zw zs zfr zto zk zt za zb zq zl zv zo zu zov ztu zsh zle zmo zc zlo zhi) sz) s.heap s.heap [] := va_S.rf
  generalize va_A (wM q cI cJ cZ zn zm zj zf zr zw zs zfr zto zk zt za zb zq zl zv zo zu zov ztu zsh zle zmo zc zlo zhi) sz = A at C0 hD hA hS ⊢
  show W p l e rmX8_mean s m args below meth c s.heap [] 0 0 (QI below args s A (dC, dI) (ty3 cI cJ cZ) RES.1 (wM q cI cJ cZ zn zm zj zf zr zw zs zfr zto zk zt za zb RES.2 zl zv zo zu zov ztu zsh zle zmo zc zlo zhi)) (F0 m 0 ls [])
  unfold mX8_mean at hres
  refine lv_aload_n hx hb dX8_mean_0 rfl (lv_at hl 0 rfl) ?_
  refine lv_iload_n hx hb dX8_mean_1 rfl (lv_at hl 1 rfl) ?_
  obtain ⟨u1, hu1, hres⟩ := mi_b hres
  refine call_I C0 (run_V C0 (rest := []) (kX8_isStep l dC dI q cI cJ cZ zn zm zj zf zr zw zs zfr zto zk zt za zb zq zl zv zo zu zov ztu zsh zle zmo zc zlo zhi  x1 u1 hu1 _) (cwV 1 hts gX8_mean_X8_isStep rfl rfl rfl (by decide +kernel) ⟨by decide, by decide⟩) hP hD (ci := 8) (q0 := 0) rfl rfl rfl hl.1 rfl (Nat.le_of_ble_eq_true rfl) dX8_mean_2) hD hS (fun H locs hP hD hS => ?_)
  refine lv_if_eq (tgt := 18) hx hb dX8_mean_5 (by decide) (fun c_2 => ?_) (fun c_2 => ?_)
  · replace hres := mi_p c_2 hres
    refine lv_iconst (v := (0 : Int32)) hx hb dX8_mean_18 (by decide) ?_
    obtain rfl := Option.some.inj hres
    exact ret_I (r := (0 : Int32)) C0 rfl hP hD hS dX8_mean_19
  · replace hres := mi_n c_2 hres
    refine lv_aload_n hx hb dX8_mean_8 rfl (lv_at hl 0 rfl) ?_
    refine va_get (D := (dC, dI)) (ci := 8) (v := .ref (q 9)) (C := RX8) (T := TX8) (N := 26) hx hb hts hwX8_mean_RX8 hown hK hP 0 rfl rfl 8 (by decide) (hts _ mwX8_mean_0) (fun _ h9 => h9) rfl dX8_mean_9 ?_
    refine lv_iload_n hx hb dX8_mean_12 rfl (lv_at hl 1 rfl) ?_
    obtain ⟨g_3, hres⟩ := mi_g hres
    refine va_zald (D := (dC, dI)) (cl := vwCl) hx hb hK hP 9 2 rfl rfl g_3 dX8_mean_13 ?_
    refine lv_iload_n hx hb dX8_mean_14 rfl (lv_at hl 2 rfl) ?_
    refine lv_icmp_ne (tgt := 20) hx hb dX8_mean_15 (by decide) (fun c_4 => ?_) (fun c_4 => ?_)
    · replace hres := mi_n c_4 hres
      refine lv_aload_n hx hb dX8_mean_20 rfl (lv_at hl 0 rfl) ?_
      refine va_get (D := (dC, dI)) (ci := 8) (v := .ref (q 9)) (C := RX8) (T := TX8) (N := 26) hx hb hts hwX8_mean_RX8 hown hK hP 0 rfl rfl 8 (by decide) (hts _ mwX8_mean_0) (fun _ h9 => h9) rfl dX8_mean_21 ?_
      refine lv_iload_n hx hb dX8_mean_24 rfl (lv_at hl 1 rfl) ?_
      refine lv_iload_n hx hb dX8_mean_25 rfl (lv_at hl 2 rfl) ?_
      refine va_zast (D := (dC, dI)) (cl := vwCl) hx hb hK hP hD hS 9 2 rfl rfl g_3 dX8_mean_26 (fun H locs hP hD hS => ?_)
      have hP : va_P (dC, dI) vwCl (wM q cI cJ cZ zn zm zj zf zr zw zs zfr zto zk zt za zb (upd zq (Int32.toNatClampNeg x1) (vp_nar .boolean x2)) zl zv zo zu zov ztu zsh zle zmo zc zlo zhi) H := hP
      have hD : va_D A (wM q cI cJ cZ zn zm zj zf zr zw zs zfr zto zk zt za zb (upd zq (Int32.toNatClampNeg x1) (vp_nar .boolean x2)) zl zv zo zu zov ztu zsh zle zmo zc zlo zhi) := hD
      refine lv_iconst (v := (1 : Int32)) hx hb dX8_mean_27 (by decide) ?_
      obtain rfl := Option.some.inj hres
      exact ret_I (r := (1 : Int32)) C0 rfl hP hD hS dX8_mean_28
    · replace hres := mi_p c_4 hres
      refine lv_iconst (v := (0 : Int32)) hx hb dX8_mean_18 (by decide) ?_
      obtain rfl := Option.some.inj hres
      exact ret_I (r := (0 : Int32)) C0 rfl hP hD hS dX8_mean_19
/-! ### SumsOverModel.listed(I)I -/
set_option maxRecDepth 20000 in
theorem hwX8_listed_RX8 : ∀ w ∈ u_ws RX8 TX8 26, w ∈ wsX8_listed := by decide +kernel
theorem mwX8_listed_0 : (.fieldLink RX8 75 "SumsOverModel" "steps" "I" : Cond) ∈ wsX8_listed := by decide +kernel
theorem mwX8_listed_1 : (.fieldLink RX8 35 "SumsOverModel" "isMeant" "[Z" : Cond) ∈ wsX8_listed := by decide +kernel
theorem mwX8_listed_2 : (.fieldLink RX8 51 "SumsOverModel" "overs" "[I" : Cond) ∈ wsX8_listed := by decide +kernel
def rmX8_listed : Room := { frames := 6, cells := 0, slots := 0, locals := 147 }
def iX8_listed_L50 (p : Program) (l : Launch) (e : Env) (s : State) (m : MethodId) (args : Array Value) (below : List Frame) (meth : Method) (c : Code) (A : Nat → Prop) (dC : Nat → ClassId) (dI : Nat → Nat → Nat) (q : Nat → Nat) (cI cJ cZ : ClassId) (zn : Int32) (zm : Int32) (zw : Nat → Int32) (zs : Nat → Int32) (zfr : Nat → Int32) (zto : Nat → Int32) (zk : Nat → Int32) (zt : Nat → Int32) (za : Nat → Int32) (zb : Nat → Int32) (zq : Nat → Int32) (zlo : Nat → Int64) (zhi : Nat → Int64)  (RES : Int32 × (Int32) × (Int32) × (Int32) × (Nat → Int32) × (Nat → Int64) × (Nat → Int32) × (Nat → Int32) × (Nat → Int32) × (Nat → Int32) × (Nat → Int32) × (Nat → Int64) × (Nat → Int64) × (Nat → Int32)) (k : (Int32) → (Int32) → (Int32) → (Nat → Int32) → (Nat → Int64) → (Nat → Int32) → (Nat → Int32) → (Nat → Int32) → (Nat → Int32) → (Nat → Int32) → (Nat → Int64) → (Nat → Int64) → (Nat → Int32) → (Int32) → (Int32) → (Int32) → (Int32) → Option (Int32 × (Int32) × (Int32) × (Int32) × (Nat → Int32) × (Nat → Int64) × (Nat → Int32) × (Nat → Int32) × (Nat → Int32) × (Nat → Int32) × (Nat → Int32) × (Nat → Int64) × (Nat → Int64) × (Nat → Int32))) : Prop := ∀ (zj : Int32) (zf : Int32) (zr : Int32) (zl : Nat → Int32) (zv : Nat → Int64) (zo : Nat → Int32) (zu : Nat → Int32) (zov : Nat → Int32) (ztu : Nat → Int32) (zsh : Nat → Int32) (zle : Nat → Int64) (zmo : Nat → Int64) (zc : Nat → Int32) (x1 : Int32) (x2 : Int32) (x3 : Int32) (x4 : Int32) (H : Heap) (locs : List Loc) (ls : Array Slot), va_P (dC, dI) vwCl (wM q cI cJ cZ zn zm zj zf zr zw zs zfr zto zk zt za zb zq zl zv zo zu zov ztu zsh zle zmo zc zlo zhi) H → va_D A (wM q cI cJ cZ zn zm zj zf zr zw zs zfr zto zk zt za zb zq zl zv zo zu zov ztu zsh zle zmo zc zlo zhi) → va_S A s.heap H locs → lv_has ls 5 [(0, .ref (q 0)), (1, .int x1), (2, .int x2), (3, .int x3), (4, .int x4)] → k zj zf zr zl zv zo zu zov ztu zsh zle zmo zc x1 x2 x3 x4 = some RES → W p l e rmX8_listed s m args below meth c H locs 0 0 (QI below args s A (dC, dI) (ty3 cI cJ cZ) RES.1 (wM q cI cJ cZ zn zm RES.2.1 RES.2.2.1 RES.2.2.2.1 zw zs zfr zto zk zt za zb zq RES.2.2.2.2.1 RES.2.2.2.2.2.1 RES.2.2.2.2.2.2.1 RES.2.2.2.2.2.2.2.1 RES.2.2.2.2.2.2.2.2.1 RES.2.2.2.2.2.2.2.2.2.1 RES.2.2.2.2.2.2.2.2.2.2.1 RES.2.2.2.2.2.2.2.2.2.2.2.1 RES.2.2.2.2.2.2.2.2.2.2.2.2.1 RES.2.2.2.2.2.2.2.2.2.2.2.2.2 zlo zhi)) (F0 m 50 ls [])
def iX8_listed_L16 (p : Program) (l : Launch) (e : Env) (s : State) (m : MethodId) (args : Array Value) (below : List Frame) (meth : Method) (c : Code) (A : Nat → Prop) (dC : Nat → ClassId) (dI : Nat → Nat → Nat) (q : Nat → Nat) (cI cJ cZ : ClassId) (zn : Int32) (zm : Int32) (zw : Nat → Int32) (zs : Nat → Int32) (zfr : Nat → Int32) (zto : Nat → Int32) (zk : Nat → Int32) (zt : Nat → Int32) (za : Nat → Int32) (zb : Nat → Int32) (zq : Nat → Int32) (zlo : Nat → Int64) (zhi : Nat → Int64)  (RES : Int32 × (Int32) × (Int32) × (Int32) × (Nat → Int32) × (Nat → Int64) × (Nat → Int32) × (Nat → Int32) × (Nat → Int32) × (Nat → Int32) × (Nat → Int32) × (Nat → Int64) × (Nat → Int64) × (Nat → Int32)) (k : (Int32) → (Int32) → (Int32) → (Nat → Int32) → (Nat → Int64) → (Nat → Int32) → (Nat → Int32) → (Nat → Int32) → (Nat → Int32) → (Nat → Int32) → (Nat → Int64) → (Nat → Int64) → (Nat → Int32) → (Int32) → (Int32) → Option (Int32 × (Int32) × (Int32) × (Int32) × (Nat → Int32) × (Nat → Int64) × (Nat → Int32) × (Nat → Int32) × (Nat → Int32) × (Nat → Int32) × (Nat → Int32) × (Nat → Int64) × (Nat → Int64) × (Nat → Int32))) : Prop := ∀ (zj : Int32) (zf : Int32) (zr : Int32) (zl : Nat → Int32) (zv : Nat → Int64) (zo : Nat → Int32) (zu : Nat → Int32) (zov : Nat → Int32) (ztu : Nat → Int32) (zsh : Nat → Int32) (zle : Nat → Int64) (zmo : Nat → Int64) (zc : Nat → Int32) (x1 : Int32) (x2 : Int32) (H : Heap) (locs : List Loc) (ls : Array Slot), va_P (dC, dI) vwCl (wM q cI cJ cZ zn zm zj zf zr zw zs zfr zto zk zt za zb zq zl zv zo zu zov ztu zsh zle zmo zc zlo zhi) H → va_D A (wM q cI cJ cZ zn zm zj zf zr zw zs zfr zto zk zt za zb zq zl zv zo zu zov ztu zsh zle zmo zc zlo zhi) → va_S A s.heap H locs → lv_has ls 5 [(0, .ref (q 0)), (1, .int x1), (2, .int x2)] → k zj zf zr zl zv zo zu zov ztu zsh zle zmo zc x1 x2 = some RES → W p l e rmX8_listed s m args below meth c H locs 0 0 (QI below args s A (dC, dI) (ty3 cI cJ cZ) RES.1 (wM q cI cJ cZ zn zm RES.2.1 RES.2.2.1 RES.2.2.2.1 zw zs zfr zto zk zt za zb zq RES.2.2.2.2.1 RES.2.2.2.2.2.1 RES.2.2.2.2.2.2.1 RES.2.2.2.2.2.2.2.1 RES.2.2.2.2.2.2.2.2.1 RES.2.2.2.2.2.2.2.2.2.1 RES.2.2.2.2.2.2.2.2.2.2.1 RES.2.2.2.2.2.2.2.2.2.2.2.1 RES.2.2.2.2.2.2.2.2.2.2.2.2.1 RES.2.2.2.2.2.2.2.2.2.2.2.2.2 zlo zhi)) (F0 m 16 ls [])
set_option maxHeartbeats 4000000 in
set_option maxRecDepth 100000 in
theorem zX8_listed_L50 {p : Program} {l : Launch} {e : Env} {s : State} {m : MethodId} {args : Array Value} {below : List Frame} {meth : Method} {c : Code} {A : Nat → Prop} {dC : Nat → ClassId} {dI : Nat → Nat → Nat} {q : Nat → Nat} {cI cJ cZ : ClassId} {zn : Int32} {zm : Int32} {zw : Nat → Int32} {zs : Nat → Int32} {zfr : Nat → Int32} {zto : Nat → Int32} {zk : Nat → Int32} {zt : Nat → Int32} {za : Nat → Int32} {zb : Nat → Int32} {zq : Nat → Int32} {zlo : Nat → Int64} {zhi : Nat → Int64}  (C0 : Cx p s m args meth c cX8_listed 5 (some .int) RX8 wsX8_listed A (dC, dI) (ty3 cI cJ cZ)) {RES : Int32 × (Int32) × (Int32) × (Int32) × (Nat → Int32) × (Nat → Int64) × (Nat → Int32) × (Nat → Int32) × (Nat → Int32) × (Nat → Int32) × (Nat → Int32) × (Nat → Int64) × (Nat → Int64) × (Nat → Int32)} {k16 : (Int32) → (Int32) → (Int32) → (Nat → Int32) → (Nat → Int64) → (Nat → Int32) → (Nat → Int32) → (Nat → Int32) → (Nat → Int32) → (Nat → Int32) → (Nat → Int64) → (Nat → Int64) → (Nat → Int32) → (Int32) → (Int32) → Option (Int32 × (Int32) × (Int32) × (Int32) × (Nat → Int32) × (Nat → Int64) × (Nat → Int32) × (Nat → Int32) × (Nat → Int32) × (Nat → Int32) × (Nat → Int32) × (Nat → Int64) × (Nat → Int64) × (Nat → Int32))} (hk16 : iX8_listed_L16 p l e s m args below meth c A dC dI q cI cJ cZ zn zm zw zs zfr zto zk zt za zb zq zlo zhi RES k16) : ∀ n : Nat, iX8_listed_L50 p l e s m args below meth c A dC dI q cI cJ cZ zn zm zw zs zfr zto zk zt za zb zq zlo zhi RES (mX8_listed_L50 zn zm zw zs zfr zto zk zt za zb zq k16 n) := by
  have C1 := C0
  obtain ⟨hx, hb, hr, hml, hown, hts, hlocks, hN, hK, hA⟩ := C1
  intro n
  induction n with
  | zero =>
    intro zj zf zr zl zv zo zu zov ztu zsh zle zmo zc x1 x2 x3 x4 H locs ls hP hD hS hl hres
    exact mi_0 hres
  | succ n ih =>
    intro zj zf zr zl zv zo zu zov ztu zsh zle zmo zc x1 x2 x3 x4 H locs ls hP hD hS hl hres
    rw [mX8_listed_L50] at hres
    refine lv_iload hx hb dX8_listed_50 (lv_at hl 4 rfl) ?_
    refine lv_aload_n hx hb dX8_listed_52 rfl (lv_at hl 0 rfl) ?_
    refine va_get (D := (dC, dI)) (ci := 8) (v := .int zn) (C := RX8) (T := TX8) (N := 26) hx hb hts hwX8_listed_RX8 hown hK hP 0 rfl rfl 9 (by decide) (hts _ mwX8_listed_0) (fun _ h9 => h9) rfl dX8_listed_53 ?_
    refine lv_icmp_ge (tgt := 132) hx hb dX8_listed_56 (by decide) (fun c_9 => ?_) (fun c_9 => ?_)
    · replace hres := mi_p c_9 hres
      refine lv_iload_n hx hb dX8_listed_132 rfl (lv_at hl 3 rfl) ?_
      refine lv_iload_n hx hb dX8_listed_133 rfl (lv_at hl 1 rfl) ?_
      refine lv_icmp_ne (tgt := 139) hx hb dX8_listed_134 (by decide) (fun c_10 => ?_) (fun c_10 => ?_)
      · replace hres := mi_n c_10 hres
        refine lv_iinc (v := x2 + (1 : Int32)) (lv' := [(2, .int (x2 + (1 : Int32))), (0, .ref (q 0)), (1, .int x1), (3, .int x3), (4, .int x4)]) hx hb dX8_listed_139 hl (k := 2) rfl rfl (by decide) rfl (fun ls hl => ?_)
        refine lv_goto (tgt := 16) hx hb dX8_listed_142 (by decide) ?_
        exact hk16 zj zf zr zl zv zo zu zov ztu zsh zle zmo zc x1 (x2 + (1 : Int32)) _ _ ls hP hD hS (lv_sub hl [1, 2, 0] rfl) hres
      · replace hres := mi_p c_10 hres
        refine lv_iload_n hx hb dX8_listed_137 rfl (lv_at hl 2 rfl) ?_
        obtain rfl := Option.some.inj hres
        exact ret_I (r := x2) C0 rfl hP hD hS dX8_listed_138
    · replace hres := mi_n c_9 hres
      refine lv_iload hx hb dX8_listed_59 (lv_at hl 4 rfl) ?_
      refine lv_iload_n hx hb dX8_listed_61 rfl (lv_at hl 2 rfl) ?_
      refine lv_icmp_eq (tgt := 126) hx hb dX8_listed_62 (by decide) (fun c_11 => ?_) (fun c_11 => ?_)
      · replace hres := mi_p c_11 hres
        refine lv_iinc (v := x4 + (1 : Int32)) (lv' := [(4, .int (x4 + (1 : Int32))), (0, .ref (q 0)), (1, .int x1), (2, .int x2), (3, .int x3)]) hx hb dX8_listed_126 hl (k := 4) rfl rfl (by decide) rfl (fun ls hl => ?_)
        refine lv_goto (tgt := 50) hx hb dX8_listed_129 (by decide) ?_
        exact ih zj zf zr zl zv zo zu zov ztu zsh zle zmo zc x1 x2 x3 (x4 + (1 : Int32)) _ _ ls hP hD hS (lv_sub hl [1, 2, 3, 4, 0] rfl) hres
      · replace hres := mi_n c_11 hres
        refine lv_aload_n hx hb dX8_listed_65 rfl (lv_at hl 0 rfl) ?_
        refine lv_iload hx hb dX8_listed_66 (lv_at hl 4 rfl) ?_
        obtain ⟨u12, hu12, hres⟩ := mi_b hres
        refine call_I C0 (run_V C0 (rest := []) (kX8_judged l dC dI q cI cJ cZ zn zm zj zf zr zw zs zfr zto zk zt za zb zq zl zv zo zu zov ztu zsh zle zmo zc zlo zhi  x4 u12 hu12 _) (cwV 1 hts gX8_listed_X8_judged rfl rfl rfl (by decide +kernel) ⟨by decide, by decide⟩) hP hD (ci := 8) (q0 := 0) rfl rfl rfl hl.1 rfl (Nat.le_of_ble_eq_true rfl) dX8_listed_68) hD hS (fun H locs hP hD hS => ?_)
        refine lv_iconst (v := (1 : Int32)) hx hb dX8_listed_71 (by decide) ?_
        refine lv_icmp_le (tgt := 126) hx hb dX8_listed_72 (by decide) (fun c_13 => ?_) (fun c_13 => ?_)
        · replace hres := mi_p c_13 hres
          refine lv_iinc (v := x4 + (1 : Int32)) (lv' := [(4, .int (x4 + (1 : Int32))), (0, .ref (q 0)), (1, .int x1), (2, .int x2), (3, .int x3)]) hx hb dX8_listed_126 hl (k := 4) rfl rfl (by decide) rfl (fun ls hl => ?_)
          refine lv_goto (tgt := 50) hx hb dX8_listed_129 (by decide) ?_
          exact ih zj zf zr zl zv zo zu zov ztu zsh zle zmo zc x1 x2 x3 (x4 + (1 : Int32)) _ _ ls hP hD hS (lv_sub hl [1, 2, 3, 4, 0] rfl) hres
        · replace hres := mi_n c_13 hres
          refine lv_aload_n hx hb dX8_listed_75 rfl (lv_at hl 0 rfl) ?_
          refine va_get (D := (dC, dI)) (ci := 8) (v := .ref (q 9)) (C := RX8) (T := TX8) (N := 26) hx hb hts hwX8_listed_RX8 hown hK hP 0 rfl rfl 8 (by decide) (hts _ mwX8_listed_1) (fun _ h9 => h9) rfl dX8_listed_76 ?_
          refine lv_iload hx hb dX8_listed_79 (lv_at hl 4 rfl) ?_
          obtain ⟨g_14, hres⟩ := mi_g hres
          refine va_zald (D := (dC, dI)) (cl := vwCl) hx hb hK hP 9 2 rfl rfl g_14 dX8_listed_81 ?_
          refine lv_if_ne (tgt := 126) hx hb dX8_listed_82 (by decide) (fun c_15 => ?_) (fun c_15 => ?_)
          · replace hres := mi_n c_15 hres
            refine lv_iinc (v := x4 + (1 : Int32)) (lv' := [(4, .int (x4 + (1 : Int32))), (0, .ref (q 0)), (1, .int x1), (2, .int x2), (3, .int x3)]) hx hb dX8_listed_126 hl (k := 4) rfl rfl (by decide) rfl (fun ls hl => ?_)
            refine lv_goto (tgt := 50) hx hb dX8_listed_129 (by decide) ?_
            exact ih zj zf zr zl zv zo zu zov ztu zsh zle zmo zc x1 x2 x3 (x4 + (1 : Int32)) _ _ ls hP hD hS (lv_sub hl [1, 2, 3, 4, 0] rfl) hres
          · replace hres := mi_p c_15 hres
            refine lv_aload_n hx hb dX8_listed_85 rfl (lv_at hl 0 rfl) ?_
            refine va_get (D := (dC, dI)) (ci := 8) (v := .ref (q 14)) (C := RX8) (T := TX8) (N := 26) hx hb hts hwX8_listed_RX8 hown hK hP 0 rfl rfl 17 (by decide) (hts _ mwX8_listed_2) (fun _ h9 => h9) rfl dX8_listed_86 ?_
            refine lv_iload hx hb dX8_listed_89 (lv_at hl 4 rfl) ?_
            refine va_iald (D := (dC, dI)) (cl := vwCl) hx hb hK hP 14 0 rfl rfl g_14 dX8_listed_91 ?_
            refine lv_aload_n hx hb dX8_listed_92 rfl (lv_at hl 0 rfl) ?_
            refine va_get (D := (dC, dI)) (ci := 8) (v := .ref (q 14)) (C := RX8) (T := TX8) (N := 26) hx hb hts hwX8_listed_RX8 hown hK hP 0 rfl rfl 17 (by decide) (hts _ mwX8_listed_2) (fun _ h9 => h9) rfl dX8_listed_93 ?_
            refine lv_iload_n hx hb dX8_listed_96 rfl (lv_at hl 2 rfl) ?_
            obtain ⟨g_16, hres⟩ := mi_g hres
            refine va_iald (D := (dC, dI)) (cl := vwCl) hx hb hK hP 14 0 rfl rfl g_16 dX8_listed_97 ?_
            refine lv_icmp_gt (tgt := 123) hx hb dX8_listed_98 (by decide) (fun c_17 => ?_) (fun c_17 => ?_)
            · replace hres := mi_p c_17 hres
              refine lv_iinc (v := x3 + (1 : Int32)) (lv' := [(3, .int (x3 + (1 : Int32))), (0, .ref (q 0)), (1, .int x1), (2, .int x2), (4, .int x4)]) hx hb dX8_listed_123 hl (k := 3) rfl rfl (by decide) rfl (fun ls hl => ?_)
              refine lv_iinc (v := x4 + (1 : Int32)) (lv' := [(4, .int (x4 + (1 : Int32))), (3, .int (x3 + (1 : Int32))), (0, .ref (q 0)), (1, .int x1), (2, .int x2)]) hx hb dX8_listed_126 hl (k := 4) rfl rfl (by decide) rfl (fun ls hl => ?_)
              refine lv_goto (tgt := 50) hx hb dX8_listed_129 (by decide) ?_
              exact ih zj zf zr zl zv zo zu zov ztu zsh zle zmo zc x1 x2 (x3 + (1 : Int32)) (x4 + (1 : Int32)) _ _ ls hP hD hS (lv_sub hl [2, 3, 4, 1, 0] rfl) hres
            · replace hres := mi_n c_17 hres
              refine lv_aload_n hx hb dX8_listed_101 rfl (lv_at hl 0 rfl) ?_
              refine va_get (D := (dC, dI)) (ci := 8) (v := .ref (q 14)) (C := RX8) (T := TX8) (N := 26) hx hb hts hwX8_listed_RX8 hown hK hP 0 rfl rfl 17 (by decide) (hts _ mwX8_listed_2) (fun _ h9 => h9) rfl dX8_listed_102 ?_
              refine lv_iload hx hb dX8_listed_105 (lv_at hl 4 rfl) ?_
              refine va_iald (D := (dC, dI)) (cl := vwCl) hx hb hK hP 14 0 rfl rfl g_14 dX8_listed_107 ?_
              refine lv_aload_n hx hb dX8_listed_108 rfl (lv_at hl 0 rfl) ?_
              refine va_get (D := (dC, dI)) (ci := 8) (v := .ref (q 14)) (C := RX8) (T := TX8) (N := 26) hx hb hts hwX8_listed_RX8 hown hK hP 0 rfl rfl 17 (by decide) (hts _ mwX8_listed_2) (fun _ h9 => h9) rfl dX8_listed_109 ?_
              refine lv_iload_n hx hb dX8_listed_112 rfl (lv_at hl 2 rfl) ?_
              refine va_iald (D := (dC, dI)) (cl := vwCl) hx hb hK hP 14 0 rfl rfl g_16 dX8_listed_113 ?_
              refine lv_icmp_ne (tgt := 126) hx hb dX8_listed_114 (by decide) (fun c_18 => ?_) (fun c_18 => ?_)
              · replace hres := mi_n c_18 hres
                refine lv_iinc (v := x4 + (1 : Int32)) (lv' := [(4, .int (x4 + (1 : Int32))), (0, .ref (q 0)), (1, .int x1), (2, .int x2), (3, .int x3)]) hx hb dX8_listed_126 hl (k := 4) rfl rfl (by decide) rfl (fun ls hl => ?_)
                refine lv_goto (tgt := 50) hx hb dX8_listed_129 (by decide) ?_
                exact ih zj zf zr zl zv zo zu zov ztu zsh zle zmo zc x1 x2 x3 (x4 + (1 : Int32)) _ _ ls hP hD hS (lv_sub hl [1, 2, 3, 4, 0] rfl) hres
              · replace hres := mi_p c_18 hres
                refine lv_iload hx hb dX8_listed_117 (lv_at hl 4 rfl) ?_
                refine lv_iload_n hx hb dX8_listed_119 rfl (lv_at hl 2 rfl) ?_
                refine lv_icmp_ge (tgt := 126) hx hb dX8_listed_120 (by decide) (fun c_19 => ?_) (fun c_19 => ?_)
                · replace hres := mi_p c_19 hres
                  refine lv_iinc (v := x4 + (1 : Int32)) (lv' := [(4, .int (x4 + (1 : Int32))), (0, .ref (q 0)), (1, .int x1), (2, .int x2), (3, .int x3)]) hx hb dX8_listed_126 hl (k := 4) rfl rfl (by decide) rfl (fun ls hl => ?_)
                  refine lv_goto (tgt := 50) hx hb dX8_listed_129 (by decide) ?_
                  exact ih zj zf zr zl zv zo zu zov ztu zsh zle zmo zc x1 x2 x3 (x4 + (1 : Int32)) _ _ ls hP hD hS (lv_sub hl [1, 2, 3, 4, 0] rfl) hres
                · replace hres := mi_n c_19 hres
                  refine lv_iinc (v := x3 + (1 : Int32)) (lv' := [(3, .int (x3 + (1 : Int32))), (0, .ref (q 0)), (1, .int x1), (2, .int x2), (4, .int x4)]) hx hb dX8_listed_123 hl (k := 3) rfl rfl (by decide) rfl (fun ls hl => ?_)
                  refine lv_iinc (v := x4 + (1 : Int32)) (lv' := [(4, .int (x4 + (1 : Int32))), (3, .int (x3 + (1 : Int32))), (0, .ref (q 0)), (1, .int x1), (2, .int x2)]) hx hb dX8_listed_126 hl (k := 4) rfl rfl (by decide) rfl (fun ls hl => ?_)
                  refine lv_goto (tgt := 50) hx hb dX8_listed_129 (by decide) ?_
                  exact ih zj zf zr zl zv zo zu zov ztu zsh zle zmo zc x1 x2 (x3 + (1 : Int32)) (x4 + (1 : Int32)) _ _ ls hP hD hS (lv_sub hl [2, 3, 4, 1, 0] rfl) hres
set_option maxHeartbeats 4000000 in
set_option maxRecDepth 100000 in
theorem zX8_listed_L16 {p : Program} {l : Launch} {e : Env} {s : State} {m : MethodId} {args : Array Value} {below : List Frame} {meth : Method} {c : Code} {A : Nat → Prop} {dC : Nat → ClassId} {dI : Nat → Nat → Nat} {q : Nat → Nat} {cI cJ cZ : ClassId} {zn : Int32} {zm : Int32} {zw : Nat → Int32} {zs : Nat → Int32} {zfr : Nat → Int32} {zto : Nat → Int32} {zk : Nat → Int32} {zt : Nat → Int32} {za : Nat → Int32} {zb : Nat → Int32} {zq : Nat → Int32} {zlo : Nat → Int64} {zhi : Nat → Int64}  (C0 : Cx p s m args meth c cX8_listed 5 (some .int) RX8 wsX8_listed A (dC, dI) (ty3 cI cJ cZ)) {RES : Int32 × (Int32) × (Int32) × (Int32) × (Nat → Int32) × (Nat → Int64) × (Nat → Int32) × (Nat → Int32) × (Nat → Int32) × (Nat → Int32) × (Nat → Int32) × (Nat → Int64) × (Nat → Int64) × (Nat → Int32)}  : ∀ n : Nat, iX8_listed_L16 p l e s m args below meth c A dC dI q cI cJ cZ zn zm zw zs zfr zto zk zt za zb zq zlo zhi RES (mX8_listed_L16 zn zm zw zs zfr zto zk zt za zb zq n) := by
  have C1 := C0
  obtain ⟨hx, hb, hr, hml, hown, hts, hlocks, hN, hK, hA⟩ := C1
  intro n
  induction n with
  | zero =>
    intro zj zf zr zl zv zo zu zov ztu zsh zle zmo zc x1 x2 H locs ls hP hD hS hl hres
    exact mi_0 hres
  | succ n ih =>
    intro zj zf zr zl zv zo zu zov ztu zsh zle zmo zc x1 x2 H locs ls hP hD hS hl hres
    rw [mX8_listed_L16] at hres
    refine lv_iload_n hx hb dX8_listed_16 rfl (lv_at hl 2 rfl) ?_
    refine lv_aload_n hx hb dX8_listed_17 rfl (lv_at hl 0 rfl) ?_
    refine va_get (D := (dC, dI)) (ci := 8) (v := .int zn) (C := RX8) (T := TX8) (N := 26) hx hb hts hwX8_listed_RX8 hown hK hP 0 rfl rfl 9 (by decide) (hts _ mwX8_listed_0) (fun _ h9 => h9) rfl dX8_listed_18 ?_
    refine lv_icmp_ge (tgt := 145) hx hb dX8_listed_21 (by decide) (fun c_4 => ?_) (fun c_4 => ?_)
    · replace hres := mi_p c_4 hres
      refine lv_iconst (v := (-1 : Int32)) hx hb dX8_listed_145 (by decide) ?_
      obtain rfl := Option.some.inj hres
      exact ret_I (r := (-1 : Int32)) C0 rfl hP hD hS dX8_listed_146
    · replace hres := mi_n c_4 hres
      refine lv_aload_n hx hb dX8_listed_24 rfl (lv_at hl 0 rfl) ?_
      refine lv_iload_n hx hb dX8_listed_25 rfl (lv_at hl 2 rfl) ?_
      obtain ⟨u5, hu5, hres⟩ := mi_b hres
      refine call_I C0 (run_V C0 (rest := []) (kX8_judged l dC dI q cI cJ cZ zn zm zj zf zr zw zs zfr zto zk zt za zb zq zl zv zo zu zov ztu zsh zle zmo zc zlo zhi  x2 u5 hu5 _) (cwV 1 hts gX8_listed_X8_judged rfl rfl rfl (by decide +kernel) ⟨by decide, by decide⟩) hP hD (ci := 8) (q0 := 0) rfl rfl rfl hl.1 rfl (Nat.le_of_ble_eq_true rfl) dX8_listed_26) hD hS (fun H locs hP hD hS => ?_)
      refine lv_iconst (v := (2 : Int32)) hx hb dX8_listed_29 (by decide) ?_
      refine lv_icmp_lt (tgt := 139) hx hb dX8_listed_30 (by decide) (fun c_6 => ?_) (fun c_6 => ?_)
      · replace hres := mi_p c_6 hres
        refine lv_iinc (v := x2 + (1 : Int32)) (lv' := [(2, .int (x2 + (1 : Int32))), (0, .ref (q 0)), (1, .int x1)]) hx hb dX8_listed_139 hl (k := 2) rfl rfl (by decide) rfl (fun ls hl => ?_)
        refine lv_goto (tgt := 16) hx hb dX8_listed_142 (by decide) ?_
        exact ih zj zf zr zl zv zo zu zov ztu zsh zle zmo zc x1 (x2 + (1 : Int32)) _ _ ls hP hD hS (lv_sub hl [1, 2, 0] rfl) hres
      · replace hres := mi_n c_6 hres
        refine lv_aload_n hx hb dX8_listed_33 rfl (lv_at hl 0 rfl) ?_
        refine va_get (D := (dC, dI)) (ci := 8) (v := .ref (q 9)) (C := RX8) (T := TX8) (N := 26) hx hb hts hwX8_listed_RX8 hown hK hP 0 rfl rfl 8 (by decide) (hts _ mwX8_listed_1) (fun _ h9 => h9) rfl dX8_listed_34 ?_
        refine lv_iload_n hx hb dX8_listed_37 rfl (lv_at hl 2 rfl) ?_
        obtain ⟨g_7, hres⟩ := mi_g hres
        refine va_zald (D := (dC, dI)) (cl := vwCl) hx hb hK hP 9 2 rfl rfl g_7 dX8_listed_38 ?_
        refine lv_if_eq (tgt := 45) hx hb dX8_listed_39 (by decide) (fun c_8 => ?_) (fun c_8 => ?_)
        · replace hres := mi_p c_8 hres
          refine lv_iconst (v := (0 : Int32)) hx hb dX8_listed_45 (by decide) ?_
          refine lv_istore_n (lv' := [(3, .int (0 : Int32)), (0, .ref (q 0)), (1, .int x1), (2, .int x2)]) hx hb dX8_listed_46 rfl hl (by decide) rfl (fun ls hl => ?_)
          refine lv_iconst (v := (0 : Int32)) hx hb dX8_listed_47 (by decide) ?_
          refine lv_istore (lv' := [(4, .int (0 : Int32)), (3, .int (0 : Int32)), (0, .ref (q 0)), (1, .int x1), (2, .int x2)]) hx hb dX8_listed_48 hl (by decide) rfl (fun ls hl => ?_)
          exact zX8_listed_L50 C0 ih FU zj zf zr zl zv zo zu zov ztu zsh zle zmo zc x1 x2 (0 : Int32) (0 : Int32) _ _ ls hP hD hS (lv_sub hl [2, 3, 4, 1, 0] rfl) hres
        · replace hres := mi_n c_8 hres
          refine lv_goto (tgt := 139) hx hb dX8_listed_42 (by decide) ?_
          refine lv_iinc (v := x2 + (1 : Int32)) (lv' := [(2, .int (x2 + (1 : Int32))), (0, .ref (q 0)), (1, .int x1)]) hx hb dX8_listed_139 hl (k := 2) rfl rfl (by decide) rfl (fun ls hl => ?_)
          refine lv_goto (tgt := 16) hx hb dX8_listed_142 (by decide) ?_
          exact ih zj zf zr zl zv zo zu zov ztu zsh zle zmo zc x1 (x2 + (1 : Int32)) _ _ ls hP hD hS (lv_sub hl [1, 2, 0] rfl) hres
set_option maxHeartbeats 4000000 in
set_option maxRecDepth 100000 in
theorem kX8_listed (l : Launch) (dC : Nat → ClassId) (dI : Nat → Nat → Nat) (q : Nat → Nat) (cI cJ cZ : ClassId) (zn : Int32) (zm : Int32) (zj : Int32) (zf : Int32) (zr : Int32) (zw : Nat → Int32) (zs : Nat → Int32) (zfr : Nat → Int32) (zto : Nat → Int32) (zk : Nat → Int32) (zt : Nat → Int32) (za : Nat → Int32) (zb : Nat → Int32) (zq : Nat → Int32) (zl : Nat → Int32) (zv : Nat → Int64) (zo : Nat → Int32) (zu : Nat → Int32) (zov : Nat → Int32) (ztu : Nat → Int32) (zsh : Nat → Int32) (zle : Nat → Int64) (zmo : Nat → Int64) (zc : Nat → Int32) (zlo : Nat → Int64) (zhi : Nat → Int64) (x1 : Int32) (RES : Int32 × (Int32) × (Int32) × (Int32) × (Nat → Int32) × (Nat → Int64) × (Nat → Int32) × (Nat → Int32) × (Nat → Int32) × (Nat → Int32) × (Nat → Int32) × (Nat → Int64) × (Nat → Int64) × (Nat → Int32)) (hres : mX8_listed zn zm zj zf zr zw zs zfr zto zk zt za zb zq zl zv zo zu zov ztu zsh zle zmo zc x1 = some RES) : CtI l yX8_listed wsX8_listed rmX8_listed (dC, dI) (ty3 cI cJ cZ) (wM q cI cJ cZ zn zm zj zf zr zw zs zfr zto zk zt za zb zq zl zv zo zu zov ztu zsh zle zmo zc zlo zhi) [.ref (q 0), .int x1] RES.1 (wM q cI cJ cZ zn zm RES.2.1 RES.2.2.1 RES.2.2.2.1 zw zs zfr zto zk zt za zb zq RES.2.2.2.2.1 RES.2.2.2.2.2.1 RES.2.2.2.2.2.2.1 RES.2.2.2.2.2.2.2.1 RES.2.2.2.2.2.2.2.2.1 RES.2.2.2.2.2.2.2.2.2.1 RES.2.2.2.2.2.2.2.2.2.2.1 RES.2.2.2.2.2.2.2.2.2.2.2.1 RES.2.2.2.2.2.2.2.2.2.2.2.2.1 RES.2.2.2.2.2.2.2.2.2.2.2.2.2 zlo zhi) := by
  intro sz
  refine ct_entry (cc := cX8_listed) (maxL := 5) (ret := some .int) (own := RX8) (by decide) rfl rfl (Nat.le_of_ble_eq_true rfl) (ll := [(0, .ref (q 0)), (1, .int x1)]) rfl ?_
  intro p e s m args below meth c hsz C0 _ hP hD ls hl
  have C1 := C0
  obtain ⟨hx, hb, hr, hml, hown, hts, hlocks, hN, hK, hA⟩ := C1
  have hS : va_S (va_A (wM q cI cJ cZ zn zm zj zf zr zw zs zfr zto zk zt za zb zq zl zv zo zu zov ztu zsh zle zmo zc zlo zhi) sz) s.heap s.heap [] := va_S.rf
  generalize va_A (wM q cI cJ cZ zn zm zj zf zr zw zs zfr zto zk zt za zb zq zl zv zo zu zov ztu zsh zle zmo zc zlo zhi) sz = A at C0 hD hA hS ⊢
  show W p l e rmX8_listed s m args below meth c s.heap [] 0 0 (QI below args s A (dC, dI) (ty3 cI cJ cZ) RES.1 (wM q cI cJ cZ zn zm RES.2.1 RES.2.2.1 RES.2.2.2.1 zw zs zfr zto zk zt za zb zq RES.2.2.2.2.1 RES.2.2.2.2.2.1 RES.2.2.2.2.2.2.1 RES.2.2.2.2.2.2.2.1 RES.2.2.2.2.2.2.2.2.1 RES.2.2.2.2.2.2.2.2.2.1 RES.2.2.2.2.2.2.2.2.2.2.1 RES.2.2.2.2.2.2.2.2.2.2.2.1 RES.2.2.2.2.2.2.2.2.2.2.2.2.1 RES.2.2.2.2.2.2.2.2.2.2.2.2.2 zlo zhi)) (F0 m 0 ls [])
  unfold mX8_listed at hres
  refine lv_iload_n hx hb dX8_listed_0 rfl (lv_at hl 1 rfl) ?_
  refine lv_if_ge (tgt := 6) hx hb dX8_listed_1 (by decide) (fun c_1 => ?_) (fun c_1 => ?_)
  · replace hres := mi_p c_1 hres
    refine lv_aload_n hx hb dX8_listed_6 rfl (lv_at hl 0 rfl) ?_
    obtain ⟨u2, hu2, hres⟩ := mi_b hres
    refine call_V C0 (run_V C0 (rest := []) (kX8_spans l dC dI q cI cJ cZ zn zm zj zf zr zw zs zfr zto zk zt za zb zq zl zv zo zu zov ztu zsh zle zmo zc zlo zhi   u2 hu2 _) (cwV 0 hts gX8_listed_X8_spans rfl rfl rfl (by decide +kernel) ⟨by decide, by decide⟩) hP hD (ci := 8) (q0 := 0) rfl rfl rfl hl.1 rfl (Nat.le_of_ble_eq_true rfl) dX8_listed_7) hD hS (fun H locs hP hD hS => ?_)
    refine lv_aload_n hx hb dX8_listed_10 rfl (lv_at hl 0 rfl) ?_
    obtain ⟨u3, hu3, hres⟩ := mi_b hres
    refine call_V C0 (run_V C0 (rest := []) (kX8_all l dC dI q cI cJ cZ zn zm u2.1 zf zr zw zs zfr zto zk zt za zb zq u2.2.1 zv zo zu zov ztu zsh u2.2.2.1 u2.2.2.2.1 u2.2.2.2.2 zlo zhi   u3 hu3 _) (cwV 0 hts gX8_listed_X8_all rfl rfl rfl (by decide +kernel) ⟨by decide, by decide⟩) hP hD (ci := 8) (q0 := 0) rfl rfl rfl hl.1 rfl (Nat.le_of_ble_eq_true rfl) dX8_listed_11) hD hS (fun H locs hP hD hS => ?_)
    refine lv_iconst (v := (0 : Int32)) hx hb dX8_listed_14 (by decide) ?_
    refine lv_istore_n (lv' := [(2, .int (0 : Int32)), (0, .ref (q 0)), (1, .int x1)]) hx hb dX8_listed_15 rfl hl (by decide) rfl (fun ls hl => ?_)
    exact zX8_listed_L16 C0  FU u3.1 u3.2.1 u3.2.2.1 u3.2.2.2.1 u3.2.2.2.2.1 u3.2.2.2.2.2.1 u3.2.2.2.2.2.2.1 u3.2.2.2.2.2.2.2.1 u3.2.2.2.2.2.2.2.2.1 u3.2.2.2.2.2.2.2.2.2 u2.2.2.1 u2.2.2.2.1 u2.2.2.2.2 x1 (0 : Int32) _ _ ls hP hD hS (lv_sub hl [1, 2, 0] rfl) hres
  · replace hres := mi_n c_1 hres
    refine lv_iconst (v := (-1 : Int32)) hx hb dX8_listed_4 (by decide) ?_
    obtain rfl := Option.some.inj hres
    exact ret_I (r := (-1 : Int32)) C0 rfl hP hD hS dX8_listed_5
/-! ### SumsOverModel.count(I)I -/
theorem mwX8_count_0 : (.constantLong RX8 228 (10) : Cond) ∈ wsX8_count := by decide +kernel
theorem mwX8_count_1 : (.constantLong RX8 230 (15) : Cond) ∈ wsX8_count := by decide +kernel
theorem mwX8_count_2 : (.constantLong RX8 232 (20) : Cond) ∈ wsX8_count := by decide +kernel
theorem mwX8_count_3 : (.constantLong RX8 234 (25) : Cond) ∈ wsX8_count := by decide +kernel
set_option maxRecDepth 20000 in
theorem hwX8_count_RX8 : ∀ w ∈ u_ws RX8 TX8 26, w ∈ wsX8_count := by decide +kernel
theorem mwX8_count_4 : (.fieldLink RX8 75 "SumsOverModel" "steps" "I" : Cond) ∈ wsX8_count := by decide +kernel
theorem mwX8_count_5 : (.fieldLink RX8 153 "SumsOverModel" "runsOver" "I" : Cond) ∈ wsX8_count := by decide +kernel
theorem mwX8_count_6 : (.fieldLink RX8 107 "SumsOverModel" "mode" "I" : Cond) ∈ wsX8_count := by decide +kernel
theorem mwX8_count_7 : (.fieldLink RX8 13 "SumsOverModel" "isSigned" "[Z" : Cond) ∈ wsX8_count := by decide +kernel
theorem mwX8_count_8 : (.fieldLink RX8 9 "SumsOverModel" "width" "[I" : Cond) ∈ wsX8_count := by decide +kernel
theorem mwX8_count_9 : (.fieldLink RX8 35 "SumsOverModel" "isMeant" "[Z" : Cond) ∈ wsX8_count := by decide +kernel
def rmX8_count : Room := { frames := 5, cells := 0, slots := 0, locals := 122 }
def iX8_count_L115 (p : Program) (l : Launch) (e : Env) (s : State) (m : MethodId) (args : Array Value) (below : List Frame) (meth : Method) (c : Code) (A : Nat → Prop) (dC : Nat → ClassId) (dI : Nat → Nat → Nat) (q : Nat → Nat) (cI cJ cZ : ClassId) (zn : Int32) (zm : Int32) (zw : Nat → Int32) (zs : Nat → Int32) (zfr : Nat → Int32) (zto : Nat → Int32) (zk : Nat → Int32) (zt : Nat → Int32) (za : Nat → Int32) (zb : Nat → Int32) (zq : Nat → Int32) (zle : Nat → Int64) (zmo : Nat → Int64) (zc : Nat → Int32) (zlo : Nat → Int64) (zhi : Nat → Int64)  (RES : Int32 × (Int32) × (Int32) × (Int32) × (Nat → Int32) × (Nat → Int64) × (Nat → Int32) × (Nat → Int32) × (Nat → Int32) × (Nat → Int32) × (Nat → Int32)) (k : (Int32) → (Int32) → (Int32) → (Nat → Int32) → (Nat → Int64) → (Nat → Int32) → (Nat → Int32) → (Nat → Int32) → (Nat → Int32) → (Nat → Int32) → (Int32) → (Int32) → Option (Int32 × (Int32) × (Int32) × (Int32) × (Nat → Int32) × (Nat → Int64) × (Nat → Int32) × (Nat → Int32) × (Nat → Int32) × (Nat → Int32) × (Nat → Int32))) : Prop := ∀ (zj : Int32) (zf : Int32) (zr : Int32) (zl : Nat → Int32) (zv : Nat → Int64) (zo : Nat → Int32) (zu : Nat → Int32) (zov : Nat → Int32) (ztu : Nat → Int32) (zsh : Nat → Int32) (x2 : Int32) (x3 : Int32) (H : Heap) (locs : List Loc) (ls : Array Slot), va_P (dC, dI) vwCl (wM q cI cJ cZ zn zm zj zf zr zw zs zfr zto zk zt za zb zq zl zv zo zu zov ztu zsh zle zmo zc zlo zhi) H → va_D A (wM q cI cJ cZ zn zm zj zf zr zw zs zfr zto zk zt za zb zq zl zv zo zu zov ztu zsh zle zmo zc zlo zhi) → va_S A s.heap H locs → lv_has ls 4 [(0, .ref (q 0)), (2, .int x2), (3, .int x3)] → k zj zf zr zl zv zo zu zov ztu zsh x2 x3 = some RES → W p l e rmX8_count s m args below meth c H locs 0 0 (QI below args s A (dC, dI) (ty3 cI cJ cZ) RES.1 (wM q cI cJ cZ zn zm RES.2.1 RES.2.2.1 RES.2.2.2.1 zw zs zfr zto zk zt za zb zq RES.2.2.2.2.1 RES.2.2.2.2.2.1 RES.2.2.2.2.2.2.1 RES.2.2.2.2.2.2.2.1 RES.2.2.2.2.2.2.2.2.1 RES.2.2.2.2.2.2.2.2.2.1 RES.2.2.2.2.2.2.2.2.2.2 zle zmo zc zlo zhi)) (F0 m 115 ls [])
set_option maxHeartbeats 4000000 in
set_option maxRecDepth 100000 in
theorem zX8_count_L115 {p : Program} {l : Launch} {e : Env} {s : State} {m : MethodId} {args : Array Value} {below : List Frame} {meth : Method} {c : Code} {A : Nat → Prop} {dC : Nat → ClassId} {dI : Nat → Nat → Nat} {q : Nat → Nat} {cI cJ cZ : ClassId} {zn : Int32} {zm : Int32} {zw : Nat → Int32} {zs : Nat → Int32} {zfr : Nat → Int32} {zto : Nat → Int32} {zk : Nat → Int32} {zt : Nat → Int32} {za : Nat → Int32} {zb : Nat → Int32} {zq : Nat → Int32} {zle : Nat → Int64} {zmo : Nat → Int64} {zc : Nat → Int32} {zlo : Nat → Int64} {zhi : Nat → Int64}  (C0 : Cx p s m args meth c cX8_count 4 (some .int) RX8 wsX8_count A (dC, dI) (ty3 cI cJ cZ)) {RES : Int32 × (Int32) × (Int32) × (Int32) × (Nat → Int32) × (Nat → Int64) × (Nat → Int32) × (Nat → Int32) × (Nat → Int32) × (Nat → Int32) × (Nat → Int32)}  : ∀ n : Nat, iX8_count_L115 p l e s m args below meth c A dC dI q cI cJ cZ zn zm zw zs zfr zto zk zt za zb zq zle zmo zc zlo zhi RES (mX8_count_L115 zn zm zw zs zfr zto zk zt za zb zq n) := by
  have C1 := C0
  obtain ⟨hx, hb, hr, hml, hown, hts, hlocks, hN, hK, hA⟩ := C1
  intro n
  induction n with
  | zero =>
    intro zj zf zr zl zv zo zu zov ztu zsh x2 x3 H locs ls hP hD hS hl hres
    exact mi_0 hres
  | succ n ih =>
    intro zj zf zr zl zv zo zu zov ztu zsh x2 x3 H locs ls hP hD hS hl hres
    rw [mX8_count_L115] at hres
    refine lv_iload_n hx hb dX8_count_115 rfl (lv_at hl 2 rfl) ?_
    refine lv_aload_n hx hb dX8_count_116 rfl (lv_at hl 0 rfl) ?_
    refine va_get (D := (dC, dI)) (ci := 8) (v := .int zn) (C := RX8) (T := TX8) (N := 26) hx hb hts hwX8_count_RX8 hown hK hP 0 rfl rfl 9 (by decide) (hts _ mwX8_count_4) (fun _ h9 => h9) rfl dX8_count_117 ?_
    refine lv_icmp_ge (tgt := 146) hx hb dX8_count_120 (by decide) (fun c_15 => ?_) (fun c_15 => ?_)
    · replace hres := mi_p c_15 hres
      refine lv_iload_n hx hb dX8_count_146 rfl (lv_at hl 1 rfl) ?_
      obtain rfl := Option.some.inj hres
      exact ret_I (r := x2) C0 rfl hP hD hS dX8_count_147
    · replace hres := mi_n c_15 hres
      refine lv_iload_n hx hb dX8_count_123 rfl (lv_at hl 1 rfl) ?_
      refine lv_aload_n hx hb dX8_count_124 rfl (lv_at hl 0 rfl) ?_
      refine va_get (D := (dC, dI)) (ci := 8) (v := .ref (q 9)) (C := RX8) (T := TX8) (N := 26) hx hb hts hwX8_count_RX8 hown hK hP 0 rfl rfl 8 (by decide) (hts _ mwX8_count_9) (fun _ h9 => h9) rfl dX8_count_125 ?_
      refine lv_iload_n hx hb dX8_count_128 rfl (lv_at hl 2 rfl) ?_
      obtain ⟨g_16, hres⟩ := mi_g hres
      refine va_zald (D := (dC, dI)) (cl := vwCl) hx hb hK hP 9 2 rfl rfl g_16 dX8_count_129 ?_
      refine lv_if_eq (tgt := 137) hx hb dX8_count_130 (by decide) (fun c_17 => ?_) (fun c_17 => ?_)
      · replace hres := mi_p c_17 hres
        refine lv_iconst (v := (0 : Int32)) hx hb dX8_count_137 (by decide) ?_
        refine lv_iadd hx hb dX8_count_138 ?_
        refine lv_istore_n (lv' := [(2, .int (x2 + (0 : Int32))), (0, .ref (q 0)), (3, .int x3)]) hx hb dX8_count_139 rfl hl (by decide) rfl (fun ls hl => ?_)
        refine lv_iinc (v := x3 + (1 : Int32)) (lv' := [(3, .int (x3 + (1 : Int32))), (2, .int (x2 + (0 : Int32))), (0, .ref (q 0))]) hx hb dX8_count_140 hl (k := 2) rfl rfl (by decide) rfl (fun ls hl => ?_)
        refine lv_goto (tgt := 115) hx hb dX8_count_143 (by decide) ?_
        exact ih zj zf zr zl zv zo zu zov ztu zsh (x2 + (0 : Int32)) (x3 + (1 : Int32)) _ _ ls hP hD hS (lv_sub hl [2, 1, 0] rfl) hres
      · replace hres := mi_n c_17 hres
        refine lv_iconst (v := (1 : Int32)) hx hb dX8_count_133 (by decide) ?_
        refine lv_goto (tgt := 138) hx hb dX8_count_134 (by decide) ?_
        refine lv_iadd hx hb dX8_count_138 ?_
        refine lv_istore_n (lv' := [(2, .int (x2 + (1 : Int32))), (0, .ref (q 0)), (3, .int x3)]) hx hb dX8_count_139 rfl hl (by decide) rfl (fun ls hl => ?_)
        refine lv_iinc (v := x3 + (1 : Int32)) (lv' := [(3, .int (x3 + (1 : Int32))), (2, .int (x2 + (1 : Int32))), (0, .ref (q 0))]) hx hb dX8_count_140 hl (k := 2) rfl rfl (by decide) rfl (fun ls hl => ?_)
        refine lv_goto (tgt := 115) hx hb dX8_count_143 (by decide) ?_
        exact ih zj zf zr zl zv zo zu zov ztu zsh (x2 + (1 : Int32)) (x3 + (1 : Int32)) _ _ ls hP hD hS (lv_sub hl [2, 1, 0] rfl) hres
set_option maxHeartbeats 4000000 in
set_option maxRecDepth 100000 in
theorem kX8_count (l : Launch) (dC : Nat → ClassId) (dI : Nat → Nat → Nat) (q : Nat → Nat) (cI cJ cZ : ClassId) (zn : Int32) (zm : Int32) (zj : Int32) (zf : Int32) (zr : Int32) (zw : Nat → Int32) (zs : Nat → Int32) (zfr : Nat → Int32) (zto : Nat → Int32) (zk : Nat → Int32) (zt : Nat → Int32) (za : Nat → Int32) (zb : Nat → Int32) (zq : Nat → Int32) (zl : Nat → Int32) (zv : Nat → Int64) (zo : Nat → Int32) (zu : Nat → Int32) (zov : Nat → Int32) (ztu : Nat → Int32) (zsh : Nat → Int32) (zle : Nat → Int64) (zmo : Nat → Int64) (zc : Nat → Int32) (zlo : Nat → Int64) (zhi : Nat → Int64) (x1 : Int32) (RES : Int32 × (Int32) × (Int32) × (Int32) × (Nat → Int32) × (Nat → Int64) × (Nat → Int32) × (Nat → Int32) × (Nat → Int32) × (Nat → Int32) × (Nat → Int32)) (hres : mX8_count zn zm zj zf zr zw zs zfr zto zk zt za zb zq zl zv zo zu zov ztu zsh x1 = some RES) : CtI l yX8_count wsX8_count rmX8_count (dC, dI) (ty3 cI cJ cZ) (wM q cI cJ cZ zn zm zj zf zr zw zs zfr zto zk zt za zb zq zl zv zo zu zov ztu zsh zle zmo zc zlo zhi) [.ref (q 0), .int x1] RES.1 (wM q cI cJ cZ zn zm RES.2.1 RES.2.2.1 RES.2.2.2.1 zw zs zfr zto zk zt za zb zq RES.2.2.2.2.1 RES.2.2.2.2.2.1 RES.2.2.2.2.2.2.1 RES.2.2.2.2.2.2.2.1 RES.2.2.2.2.2.2.2.2.1 RES.2.2.2.2.2.2.2.2.2.1 RES.2.2.2.2.2.2.2.2.2.2 zle zmo zc zlo zhi) := by
  intro sz
  refine ct_entry (cc := cX8_count) (maxL := 4) (ret := some .int) (own := RX8) (by decide) rfl rfl (Nat.le_of_ble_eq_true rfl) (ll := [(0, .ref (q 0)), (1, .int x1)]) rfl ?_
  intro p e s m args below meth c hsz C0 _ hP hD ls hl
  have C1 := C0
  obtain ⟨hx, hb, hr, hml, hown, hts, hlocks, hN, hK, hA⟩ := C1
  have hS : va_S (va_A (wM q cI cJ cZ zn zm zj zf zr zw zs zfr zto zk zt za zb zq zl zv zo zu zov ztu zsh zle zmo zc zlo zhi) sz) s.heap s.heap [] := va_S.rf
  generalize va_A (wM q cI cJ cZ zn zm zj zf zr zw zs zfr zto zk zt za zb zq zl zv zo zu zov ztu zsh zle zmo zc zlo zhi) sz = A at C0 hD hA hS ⊢
  show W p l e rmX8_count s m args below meth c s.heap [] 0 0 (QI below args s A (dC, dI) (ty3 cI cJ cZ) RES.1 (wM q cI cJ cZ zn zm RES.2.1 RES.2.2.1 RES.2.2.2.1 zw zs zfr zto zk zt za zb zq RES.2.2.2.2.1 RES.2.2.2.2.2.1 RES.2.2.2.2.2.2.1 RES.2.2.2.2.2.2.2.1 RES.2.2.2.2.2.2.2.2.1 RES.2.2.2.2.2.2.2.2.2.1 RES.2.2.2.2.2.2.2.2.2.2 zle zmo zc zlo zhi)) (F0 m 0 ls [])
  unfold mX8_count at hres
  refine lv_iload_n hx hb dX8_count_0 rfl (lv_at hl 1 rfl) ?_
  refine lv_i2l (v := (x1).toInt64) hx hb dX8_count_1 rfl ?_
  refine lv_ldc2 (own := RX8) (v := (10 : Int64)) hx hb hown (hts _ mwX8_count_0) dX8_count_2 ?_
  refine lv_ldc2 (own := RX8) (v := (15 : Int64)) hx hb hown (hts _ mwX8_count_1) dX8_count_5 ?_
  obtain ⟨u1, hu1, hres⟩ := mi_b hres
  refine call_I C0 (run_S C0 (rest := []) (kX8_in l (dC, dI) (ty3 cI cJ cZ) (wM q cI cJ cZ zn zm zj zf zr zw zs zfr zto zk zt za zb zq zl zv zo zu zov ztu zsh zle zmo zc zlo zhi) ((x1).toInt64) (10 : Int64) (15 : Int64) u1 hu1 _) (va_cwS 3 hts gX8_count_X8_in rfl rfl rfl (by decide +kernel) ⟨by decide, by decide⟩) hP hD rfl hl.1 rfl (Nat.le_of_ble_eq_true rfl) dX8_count_8) hD hS (fun H locs hP hD hS => ?_)
  refine lv_if_eq (tgt := 24) hx hb dX8_count_11 (by decide) (fun c_2 => ?_) (fun c_2 => ?_)
  · replace hres := mi_p c_2 hres
    refine lv_iload_n hx hb dX8_count_24 rfl (lv_at hl 1 rfl) ?_
    refine lv_i2l (v := (x1).toInt64) hx hb dX8_count_25 rfl ?_
    refine lv_ldc2 (own := RX8) (v := (20 : Int64)) hx hb hown (hts _ mwX8_count_2) dX8_count_26 ?_
    refine lv_ldc2 (own := RX8) (v := (25 : Int64)) hx hb hown (hts _ mwX8_count_3) dX8_count_29 ?_
    obtain ⟨u3, hu3, hres⟩ := mi_b hres
    refine call_I C0 (run_S C0 (rest := []) (kX8_in l (dC, dI) (ty3 cI cJ cZ) (wM q cI cJ cZ zn zm zj zf zr zw zs zfr zto zk zt za zb zq zl zv zo zu zov ztu zsh zle zmo zc zlo zhi) ((x1).toInt64) (20 : Int64) (25 : Int64) u3 hu3 _) (va_cwS 3 hts gX8_count_X8_in rfl rfl rfl (by decide +kernel) ⟨by decide, by decide⟩) hP hD rfl hl.1 rfl (Nat.le_of_ble_eq_true rfl) dX8_count_32) hD hS (fun H locs hP hD hS => ?_)
    refine lv_if_eq (tgt := 56) hx hb dX8_count_35 (by decide) (fun c_4 => ?_) (fun c_4 => ?_)
    · replace hres := mi_p c_4 hres
      refine lv_iload_n hx hb dX8_count_56 rfl (lv_at hl 1 rfl) ?_
      by_cases c_5 : x1 = (0 : Int32)
      · replace hres := mi_p c_5 hres
        refine sw_tab (tgt := 92) hx hb dX8_count_57 (by decide) (by have h9 := c_5 <;> (rw [h9]; decide)) ?_
        refine lv_aload_n hx hb dX8_count_92 rfl (lv_at hl 0 rfl) ?_
        refine va_get (D := (dC, dI)) (ci := 8) (v := .int zn) (C := RX8) (T := TX8) (N := 26) hx hb hts hwX8_count_RX8 hown hK hP 0 rfl rfl 9 (by decide) (hts _ mwX8_count_4) (fun _ h9 => h9) rfl dX8_count_93 ?_
        obtain rfl := Option.some.inj hres
        exact ret_I (r := zn) C0 rfl hP hD hS dX8_count_96
      · replace hres := mi_n c_5 hres
        by_cases c_6 : x1 = (1 : Int32)
        · replace hres := mi_p c_6 hres
          refine sw_tab (tgt := 97) hx hb dX8_count_57 (by decide) (by have h9 := c_6 <;> (rw [h9]; decide)) ?_
          refine lv_aload_n hx hb dX8_count_97 rfl (lv_at hl 0 rfl) ?_
          obtain ⟨u7, hu7, hres⟩ := mi_b hres
          refine call_I C0 (run_V C0 (rest := []) (kX8_many l dC dI q cI cJ cZ zn zm zj zf zr zw zs zfr zto zk zt za zb zq zl zv zo zu zov ztu zsh zle zmo zc zlo zhi   u7 hu7 _) (cwV 0 hts gX8_count_X8_many rfl rfl rfl (by decide +kernel) ⟨by decide, by decide⟩) hP hD (ci := 8) (q0 := 0) rfl rfl rfl hl.1 rfl (Nat.le_of_ble_eq_true rfl) dX8_count_98) hD hS (fun H locs hP hD hS => ?_)
          obtain rfl := Option.some.inj hres
          exact ret_I (r := u7) C0 rfl hP hD hS dX8_count_101
        · replace hres := mi_n c_6 hres
          by_cases c_8 : x1 = (2 : Int32)
          · replace hres := mi_p c_8 hres
            refine sw_tab (tgt := 102) hx hb dX8_count_57 (by decide) (by have h9 := c_8 <;> (rw [h9]; decide)) ?_
            refine lv_aload_n hx hb dX8_count_102 rfl (lv_at hl 0 rfl) ?_
            obtain ⟨u9, hu9, hres⟩ := mi_b hres
            refine call_V C0 (run_V C0 (rest := []) (kX8_all l dC dI q cI cJ cZ zn zm zj zf zr zw zs zfr zto zk zt za zb zq zl zv zo zu zov ztu zsh zle zmo zc zlo zhi   u9 hu9 _) (cwV 0 hts gX8_count_X8_all rfl rfl rfl (by decide +kernel) ⟨by decide, by decide⟩) hP hD (ci := 8) (q0 := 0) rfl rfl rfl hl.1 rfl (Nat.le_of_ble_eq_true rfl) dX8_count_103) hD hS (fun H locs hP hD hS => ?_)
            refine lv_aload_n hx hb dX8_count_106 rfl (lv_at hl 0 rfl) ?_
            refine va_get (D := (dC, dI)) (ci := 8) (v := .int u9.2.2.1) (C := RX8) (T := TX8) (N := 26) hx hb hts hwX8_count_RX8 hown hK hP 0 rfl rfl 20 (by decide) (hts _ mwX8_count_5) (fun _ h9 => h9) rfl dX8_count_107 ?_
            obtain rfl := Option.some.inj hres
            exact ret_I (r := u9.2.2.1) C0 rfl hP hD hS dX8_count_110
          · replace hres := mi_n c_8 hres
            by_cases c_10 : x1 = (3 : Int32)
            · replace hres := mi_p c_10 hres
              refine sw_tab (tgt := 111) hx hb dX8_count_57 (by decide) (by have h9 := c_10 <;> (rw [h9]; decide)) ?_
              refine lv_iconst (v := (0 : Int32)) hx hb dX8_count_111 (by decide) ?_
              refine lv_istore_n (lv' := [(2, .int (0 : Int32)), (0, .ref (q 0)), (1, .int x1)]) hx hb dX8_count_112 rfl hl (by decide) rfl (fun ls hl => ?_)
              refine lv_iconst (v := (0 : Int32)) hx hb dX8_count_113 (by decide) ?_
              refine lv_istore_n (lv' := [(3, .int (0 : Int32)), (2, .int (0 : Int32)), (0, .ref (q 0)), (1, .int x1)]) hx hb dX8_count_114 rfl hl (by decide) rfl (fun ls hl => ?_)
              exact zX8_count_L115 C0  FU zj zf zr zl zv zo zu zov ztu zsh (0 : Int32) (0 : Int32) _ _ ls hP hD hS (lv_sub hl [2, 1, 0] rfl) hres
            · replace hres := mi_n c_10 hres
              by_cases c_11 : x1 = (4 : Int32)
              · replace hres := mi_p c_11 hres
                refine sw_tab (tgt := 148) hx hb dX8_count_57 (by decide) (by have h9 := c_11 <;> (rw [h9]; decide)) ?_
                refine lv_aload_n hx hb dX8_count_148 rfl (lv_at hl 0 rfl) ?_
                refine va_get (D := (dC, dI)) (ci := 8) (v := .int zm) (C := RX8) (T := TX8) (N := 26) hx hb hts hwX8_count_RX8 hown hK hP 0 rfl rfl 10 (by decide) (hts _ mwX8_count_6) (fun _ h9 => h9) rfl dX8_count_149 ?_
                obtain rfl := Option.some.inj hres
                exact ret_I (r := zm) C0 rfl hP hD hS dX8_count_152
              · replace hres := mi_n c_11 hres
                refine sw_tab (tgt := 153) hx hb dX8_count_57 (by decide) (by
                  have n_0 : ¬ Int32.toInt x1 = 0 := lv_neT (k := (0 : Int32)) (fun h9 => c_5 (h9)) (by decide)
                  have n_1 : ¬ Int32.toInt x1 = 1 := lv_neT (k := (1 : Int32)) (fun h9 => c_6 (h9)) (by decide)
                  have n_2 : ¬ Int32.toInt x1 = 2 := lv_neT (k := (2 : Int32)) (fun h9 => c_8 (h9)) (by decide)
                  have n_3 : ¬ Int32.toInt x1 = 3 := lv_neT (k := (3 : Int32)) (fun h9 => c_10 (h9)) (by decide)
                  have n_4 : ¬ Int32.toInt x1 = 4 := lv_neT (k := (4 : Int32)) (fun h9 => c_11 (h9)) (by decide)
                  unfold swt
                  split
                  · decide
                  · exfalso; omega) ?_
                refine lv_iconst (v := (-1 : Int32)) hx hb dX8_count_153 (by decide) ?_
                obtain rfl := Option.some.inj hres
                exact ret_I (r := (-1 : Int32)) C0 rfl hP hD hS dX8_count_154
    · replace hres := mi_n c_4 hres
      refine lv_aload_n hx hb dX8_count_38 rfl (lv_at hl 0 rfl) ?_
      refine va_get (D := (dC, dI)) (ci := 8) (v := .ref (q 2)) (C := RX8) (T := TX8) (N := 26) hx hb hts hwX8_count_RX8 hown hK hP 0 rfl rfl 1 (by decide) (hts _ mwX8_count_7) (fun _ h9 => h9) rfl dX8_count_39 ?_
      refine lv_iload_n hx hb dX8_count_42 rfl (lv_at hl 1 rfl) ?_
      refine lv_bipush (v := (20 : Int32)) hx hb dX8_count_43 (by decide) ?_
      refine lv_isub hx hb dX8_count_45 ?_
      obtain ⟨g_12, hres⟩ := mi_g hres
      refine va_zald (D := (dC, dI)) (cl := vwCl) hx hb hK hP 2 2 rfl rfl g_12 dX8_count_46 ?_
      refine lv_if_eq (tgt := 54) hx hb dX8_count_47 (by decide) (fun c_13 => ?_) (fun c_13 => ?_)
      · replace hres := mi_p c_13 hres
        refine lv_iconst (v := (0 : Int32)) hx hb dX8_count_54 (by decide) ?_
        obtain rfl := Option.some.inj hres
        exact ret_I (r := (0 : Int32)) C0 rfl hP hD hS dX8_count_55
      · replace hres := mi_n c_13 hres
        refine lv_iconst (v := (1 : Int32)) hx hb dX8_count_50 (by decide) ?_
        refine lv_goto (tgt := 55) hx hb dX8_count_51 (by decide) ?_
        obtain rfl := Option.some.inj hres
        exact ret_I (r := (1 : Int32)) C0 rfl hP hD hS dX8_count_55
  · replace hres := mi_n c_2 hres
    refine lv_aload_n hx hb dX8_count_14 rfl (lv_at hl 0 rfl) ?_
    refine va_get (D := (dC, dI)) (ci := 8) (v := .ref (q 1)) (C := RX8) (T := TX8) (N := 26) hx hb hts hwX8_count_RX8 hown hK hP 0 rfl rfl 0 (by decide) (hts _ mwX8_count_8) (fun _ h9 => h9) rfl dX8_count_15 ?_
    refine lv_iload_n hx hb dX8_count_18 rfl (lv_at hl 1 rfl) ?_
    refine lv_bipush (v := (10 : Int32)) hx hb dX8_count_19 (by decide) ?_
    refine lv_isub hx hb dX8_count_21 ?_
    obtain ⟨g_14, hres⟩ := mi_g hres
    refine va_iald (D := (dC, dI)) (cl := vwCl) hx hb hK hP 1 0 rfl rfl g_14 dX8_count_22 ?_
    obtain rfl := Option.some.inj hres
    exact ret_I (r := (zw (Int32.toNatClampNeg (x1 - (10 : Int32))))) C0 rfl hP hD hS dX8_count_23
