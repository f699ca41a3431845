def wM (q : Nat → Nat) (cI cJ cZ : ClassId) (zn : Int32) (zm : Int32) (zj : Int32) (zf : Int32) (zr : Int32) (zw : Nat → Int32) (zs : Nat → Int32) (zfr : Nat → Int32) (zto : Nat → Int32) (zk : Nat → Int32) (zt : Nat → Int32) (za : Nat → Int32) (zb : Nat → Int32) (zq : Nat → Int32) (zl : Nat → Int32) (zv : Nat → Int64) (zo : Nat → Int32) (zu : Nat → Int32) (zov : Nat → Int32) (ztu : Nat → Int32) (zsh : Nat → Int32) (zle : Nat → Int64) (zmo : Nat → Int64) (zc : Nat → Int32) (zlo : Nat → Int64) (zhi : Nat → Int64) : va_W := [(q 0, .inr (8, [.ref (q 1), .ref (q 2), .ref (q 3), .ref (q 4), .ref (q 5), .ref (q 6), .ref (q 7), .ref (q 8), .ref (q 9), .int zn, .int zm, .ref (q 10), .int zj, .ref (q 11), .ref (q 12), .ref (q 13), .int zf, .ref (q 14), .ref (q 15), .ref (q 16), .int zr, .ref (q 17), .ref (q 18), .ref (q 19), .ref (q 20), .ref (q 21)])), (q 1, .inl (cI, 6, .inl zw)), (q 2, .inl (cZ, 6, .inl zs)), (q 3, .inl (cI, 2, .inl zfr)), (q 4, .inl (cI, 2, .inl zto)), (q 5, .inl (cI, 24, .inl zk)), (q 6, .inl (cI, 24, .inl zt)), (q 7, .inl (cI, 24, .inl za)), (q 8, .inl (cI, 24, .inl zb)), (q 9, .inl (cZ, 24, .inl zq)), (q 10, .inl (cI, 288, .inl zl)), (q 11, .inl (cJ, 6, .inr (.inl zv))), (q 12, .inl (cZ, 24, .inl zo)), (q 13, .inl (cZ, 24, .inl zu)), (q 14, .inl (cI, 24, .inl zov)), (q 15, .inl (cI, 24, .inl ztu)), (q 16, .inl (cI, 24, .inl zsh)), (q 17, .inl (cJ, 6, .inr (.inl zle))), (q 18, .inl (cJ, 6, .inr (.inl zmo))), (q 19, .inl (cZ, 24, .inl zc)), (q 20, .inl (cJ, 6, .inr (.inl zlo))), (q 21, .inl (cJ, 6, .inr (.inl zhi)))]
/-! ### SumsOverModel.isStep(I)Z -/
set_option maxRecDepth 20000 in
theorem hwX8_isStep_RX8 : ∀ w ∈ u_ws RX8 TX8 26, w ∈ wsX8_isStep := by decide +kernel
theorem mwX8_isStep_0 : (.fieldLink RX8 75 "SumsOverModel" "steps" "I" : Cond) ∈ wsX8_isStep := by decide +kernel
def rmX8_isStep : Room := { frames := 1, cells := 0, slots := 0, locals := 25 }
set_option maxHeartbeats 4000000 in
set_option maxRecDepth 100000 in
theorem kX8_isStep (l : Launch) (dC : Nat → ClassId) (dI : Nat → Nat → Nat) (q : Nat → Nat) (cI cJ cZ : ClassId) (zn : Int32) (zm : Int32) (zj : Int32) (zf : Int32) (zr : Int32) (zw : Nat → Int32) (zs : Nat → Int32) (zfr : Nat → Int32) (zto : Nat → Int32) (zk : Nat → Int32) (zt : Nat → Int32) (za : Nat → Int32) (zb : Nat → Int32) (zq : Nat → Int32) (zl : Nat → Int32) (zv : Nat → Int64) (zo : Nat → Int32) (zu : Nat → Int32) (zov : Nat → Int32) (ztu : Nat → Int32) (zsh : Nat → Int32) (zle : Nat → Int64) (zmo : Nat → Int64) (zc : Nat → Int32) (zlo : Nat → Int64) (zhi : Nat → Int64) (x1 : Int32) (RES : Int32) (hres : mX8_isStep zn x1 = some RES) : CtI l yX8_isStep wsX8_isStep rmX8_isStep (dC, dI) (ty3 cI cJ cZ) (wM q cI cJ cZ zn zm zj zf zr zw zs zfr zto zk zt za zb zq zl zv zo zu zov ztu zsh zle zmo zc zlo zhi) [.ref (q 0), .int x1] RES (wM q cI cJ cZ zn zm zj zf zr zw zs zfr zto zk zt za zb zq zl zv zo zu zov ztu zsh zle zmo zc zlo zhi) := by
  intro sz
  refine ct_entry (cc := cX8_isStep) (maxL := 2) (ret := some .boolean) (own := RX8) (by decide) rfl rfl (Nat.le_of_ble_eq_true rfl) (ll := [(0, .ref (q 0)), (1, .int x1)]) rfl ?_
  intro p e s m args below meth c hsz C0 _ hP hD ls hl
  have C1 := C0
  obtain ⟨hx, hb, hr, hml, hown, hts, hlocks, hN, hK, hA⟩ := C1
  have hS : va_S (va_A (wM q cI cJ cZ zn zm zj zf zr zw zs zfr zto zk zt za zb zq zl zv zo zu zov ztu zsh zle zmo zc zlo zhi) sz) s.heap s.heap [] := va_S.rf
  generalize va_A (wM q cI cJ cZ zn zm zj zf zr zw zs zfr zto zk zt za zb zq zl zv zo zu zov ztu zsh zle zmo zc zlo zhi) sz = A at C0 hD hA hS ⊢
  show W p l e rmX8_isStep s m args below meth c s.heap [] 0 0 (QI below args s A (dC, dI) (ty3 cI cJ cZ) RES (wM q cI cJ cZ zn zm zj zf zr zw zs zfr zto zk zt za zb zq zl zv zo zu zov ztu zsh zle zmo zc zlo zhi)) (F0 m 0 ls [])
  unfold mX8_isStep at hres
  refine lv_iload_n hx hb dX8_isStep_0 rfl (lv_at hl 1 rfl) ?_
  refine lv_i2l (v := (x1).toInt64) hx hb dX8_isStep_1 rfl ?_
  refine lv_lconst (v := (0 : Int64)) hx hb dX8_isStep_2 (by decide) ?_
  refine lv_aload_n hx hb dX8_isStep_3 rfl (lv_at hl 0 rfl) ?_
  refine va_get (D := (dC, dI)) (ci := 8) (v := .int zn) (C := RX8) (T := TX8) (N := 26) hx hb hts hwX8_isStep_RX8 hown hK hP 0 rfl rfl 9 (by decide) (hts _ mwX8_isStep_0) (fun _ h9 => h9) rfl dX8_isStep_4 ?_
  refine lv_iconst (v := (1 : Int32)) hx hb dX8_isStep_7 (by decide) ?_
  refine lv_isub hx hb dX8_isStep_8 ?_
  refine lv_i2l (v := ((zn - (1 : Int32))).toInt64) hx hb dX8_isStep_9 rfl ?_
  obtain ⟨u1, hu1, hres⟩ := mi_b hres
  refine call_I C0 (run_S C0 (rest := []) (kX8_in l (dC, dI) (ty3 cI cJ cZ) (wM q cI cJ cZ zn zm zj zf zr zw zs zfr zto zk zt za zb zq zl zv zo zu zov ztu zsh zle zmo zc zlo zhi) ((x1).toInt64) (0 : Int64) (((zn - (1 : Int32))).toInt64) u1 hu1 _) (va_cwS 3 hts gX8_isStep_X8_in rfl rfl rfl (by decide +kernel) ⟨by decide, by decide⟩) hP hD rfl hl.1 rfl (Nat.le_of_ble_eq_true rfl) dX8_isStep_10) hD hS (fun H locs hP hD hS => ?_)
  obtain ⟨g_2, hres⟩ := mi_g hres
  obtain rfl := Option.some.inj hres
  exact ret_I (r := u1) C0 (narrow_z (Decidable.not_not.mp g_2)) hP hD hS dX8_isStep_13
/-! ### SumsOverModel.name(IIZ)Z -/
theorem mwX8_name_0 : (.constantLong RX8 89 (2) : Cond) ∈ wsX8_name := by decide +kernel
theorem mwX8_name_1 : (.constantLong RX8 91 (31) : Cond) ∈ wsX8_name := by decide +kernel
set_option maxRecDepth 20000 in
theorem hwX8_name_RX8 : ∀ w ∈ u_ws RX8 TX8 26, w ∈ wsX8_name := by decide +kernel
theorem mwX8_name_2 : (.fieldLink RX8 9 "SumsOverModel" "width" "[I" : Cond) ∈ wsX8_name := by decide +kernel
theorem mwX8_name_3 : (.fieldLink RX8 13 "SumsOverModel" "isSigned" "[Z" : Cond) ∈ wsX8_name := by decide +kernel
def rmX8_name : Room := { frames := 2, cells := 0, slots := 0, locals := 45 }
set_option maxHeartbeats 4000000 in
set_option maxRecDepth 100000 in
theorem kX8_name (l : Launch) (dC : Nat → ClassId) (dI : Nat → Nat → Nat) (q : Nat → Nat) (cI cJ cZ : ClassId) (zn : Int32) (zm : Int32) (zj : Int32) (zf : Int32) (zr : Int32) (zw : Nat → Int32) (zs : Nat → Int32) (zfr : Nat → Int32) (zto : Nat → Int32) (zk : Nat → Int32) (zt : Nat → Int32) (za : Nat → Int32) (zb : Nat → Int32) (zq : Nat → Int32) (zl : Nat → Int32) (zv : Nat → Int64) (zo : Nat → Int32) (zu : Nat → Int32) (zov : Nat → Int32) (ztu : Nat → Int32) (zsh : Nat → Int32) (zle : Nat → Int64) (zmo : Nat → Int64) (zc : Nat → Int32) (zlo : Nat → Int64) (zhi : Nat → Int64) (x1 : Int32) (x2 : Int32) (x3 : Int32) (RES : Int32 × (Nat → Int32) × (Nat → Int32)) (hres : mX8_name zw zs x1 x2 x3 = some RES) : CtI l yX8_name wsX8_name rmX8_name (dC, dI) (ty3 cI cJ cZ) (wM q cI cJ cZ zn zm zj zf zr zw zs zfr zto zk zt za zb zq zl zv zo zu zov ztu zsh zle zmo zc zlo zhi) [.ref (q 0), .int x1, .int x2, .int x3] RES.1 (wM q cI cJ cZ zn zm zj zf zr RES.2.1 RES.2.2 zfr zto zk zt za zb zq zl zv zo zu zov ztu zsh zle zmo zc zlo zhi) := by
  intro sz
  refine ct_entry (cc := cX8_name) (maxL := 4) (ret := some .boolean) (own := RX8) (by decide) rfl rfl (Nat.le_of_ble_eq_true rfl) (ll := [(0, .ref (q 0)), (1, .int x1), (2, .int x2), (3, .int x3)]) rfl ?_
  intro p e s m args below meth c hsz C0 _ hP hD ls hl
  have C1 := C0
  obtain ⟨hx, hb, hr, hml, hown, hts, hlocks, hN, hK, hA⟩ := C1
  have hS : va_S (va_A (wM q cI cJ cZ zn zm zj zf zr zw zs zfr zto zk zt za zb zq zl zv zo zu zov ztu zsh zle zmo zc zlo zhi) sz) s.heap s.heap [] := va_S.rf
  generalize va_A (wM q cI cJ cZ zn zm zj zf zr zw zs zfr zto zk zt za zb zq zl zv zo zu zov ztu zsh zle zmo zc zlo zhi) sz = A at C0 hD hA hS ⊢
  show W p l e rmX8_name s m args below meth c s.heap [] 0 0 (QI below args s A (dC, dI) (ty3 cI cJ cZ) RES.1 (wM q cI cJ cZ zn zm zj zf zr RES.2.1 RES.2.2 zfr zto zk zt za zb zq zl zv zo zu zov ztu zsh zle zmo zc zlo zhi)) (F0 m 0 ls [])
  unfold mX8_name at hres
  refine lv_iload_n hx hb dX8_name_0 rfl (lv_at hl 1 rfl) ?_
  obtain ⟨u1, hu1, hres⟩ := mi_b hres
  refine call_I C0 (run_S C0 (rest := []) (kX8_isName l (dC, dI) (ty3 cI cJ cZ) (wM q cI cJ cZ zn zm zj zf zr zw zs zfr zto zk zt za zb zq zl zv zo zu zov ztu zsh zle zmo zc zlo zhi) x1 u1 hu1 _) (va_cwS 1 hts gX8_name_X8_isName rfl rfl rfl (by decide +kernel) ⟨by decide, by decide⟩) hP hD rfl hl.1 rfl (Nat.le_of_ble_eq_true rfl) dX8_name_1) hD hS (fun H locs hP hD hS => ?_)
  refine lv_if_eq (tgt := 21) hx hb dX8_name_4 (by decide) (fun c_2 => ?_) (fun c_2 => ?_)
  · replace hres := mi_p c_2 hres
    refine lv_iconst (v := (0 : Int32)) hx hb dX8_name_21 (by decide) ?_
    obtain rfl := Option.some.inj hres
    exact ret_I (r := (0 : Int32)) C0 rfl hP hD hS dX8_name_22
  · replace hres := mi_n c_2 hres
    refine lv_iload_n hx hb dX8_name_7 rfl (lv_at hl 2 rfl) ?_
    refine lv_i2l (v := (x2).toInt64) hx hb dX8_name_8 rfl ?_
    refine lv_ldc2 (own := RX8) (v := (2 : Int64)) hx hb hown (hts _ mwX8_name_0) dX8_name_9 ?_
    refine lv_ldc2 (own := RX8) (v := (31 : Int64)) hx hb hown (hts _ mwX8_name_1) dX8_name_12 ?_
    obtain ⟨u3, hu3, hres⟩ := mi_b hres
    refine call_I C0 (run_S C0 (rest := []) (kX8_in l (dC, dI) (ty3 cI cJ cZ) (wM q cI cJ cZ zn zm zj zf zr zw zs zfr zto zk zt za zb zq zl zv zo zu zov ztu zsh zle zmo zc zlo zhi) ((x2).toInt64) (2 : Int64) (31 : Int64) u3 hu3 _) (va_cwS 3 hts gX8_name_X8_in rfl rfl rfl (by decide +kernel) ⟨by decide, by decide⟩) hP hD rfl hl.1 rfl (Nat.le_of_ble_eq_true rfl) dX8_name_15) hD hS (fun H locs hP hD hS => ?_)
    refine lv_if_ne (tgt := 23) hx hb dX8_name_18 (by decide) (fun c_4 => ?_) (fun c_4 => ?_)
    · replace hres := mi_n c_4 hres
      refine lv_aload_n hx hb dX8_name_23 rfl (lv_at hl 0 rfl) ?_
      refine va_get (D := (dC, dI)) (ci := 8) (v := .ref (q 1)) (C := RX8) (T := TX8) (N := 26) hx hb hts hwX8_name_RX8 hown hK hP 0 rfl rfl 0 (by decide) (hts _ mwX8_name_2) (fun _ h9 => h9) rfl dX8_name_24 ?_
      refine lv_iload_n hx hb dX8_name_27 rfl (lv_at hl 1 rfl) ?_
      refine lv_iload_n hx hb dX8_name_28 rfl (lv_at hl 2 rfl) ?_
      obtain ⟨g_5, hres⟩ := mi_g hres
      refine va_iast (D := (dC, dI)) (cl := vwCl) hx hb hK hP hD hS 1 0 rfl rfl g_5 dX8_name_29 (fun H locs hP hD hS => ?_)
      have hP : va_P (dC, dI) vwCl (wM q cI cJ cZ zn zm zj zf zr (upd zw (Int32.toNatClampNeg x1) x2) zs zfr zto zk zt za zb zq zl zv zo zu zov ztu zsh zle zmo zc zlo zhi) H := hP
      have hD : va_D A (wM q cI cJ cZ zn zm zj zf zr (upd zw (Int32.toNatClampNeg x1) x2) zs zfr zto zk zt za zb zq zl zv zo zu zov ztu zsh zle zmo zc zlo zhi) := hD
      refine lv_aload_n hx hb dX8_name_30 rfl (lv_at hl 0 rfl) ?_
      refine va_get (D := (dC, dI)) (ci := 8) (v := .ref (q 2)) (C := RX8) (T := TX8) (N := 26) hx hb hts hwX8_name_RX8 hown hK hP 0 rfl rfl 1 (by decide) (hts _ mwX8_name_3) (fun _ h9 => h9) rfl dX8_name_31 ?_
      refine lv_iload_n hx hb dX8_name_34 rfl (lv_at hl 1 rfl) ?_
      refine lv_iload_n hx hb dX8_name_35 rfl (lv_at hl 3 rfl) ?_
      refine va_zast (D := (dC, dI)) (cl := vwCl) hx hb hK hP hD hS 2 2 rfl rfl g_5 dX8_name_36 (fun H locs hP hD hS => ?_)
      have hP : va_P (dC, dI) vwCl (wM q cI cJ cZ zn zm zj zf zr (upd zw (Int32.toNatClampNeg x1) x2) (upd zs (Int32.toNatClampNeg x1) (vp_nar .boolean x3)) zfr zto zk zt za zb zq zl zv zo zu zov ztu zsh zle zmo zc zlo zhi) H := hP
      have hD : va_D A (wM q cI cJ cZ zn zm zj zf zr (upd zw (Int32.toNatClampNeg x1) x2) (upd zs (Int32.toNatClampNeg x1) (vp_nar .boolean x3)) zfr zto zk zt za zb zq zl zv zo zu zov ztu zsh zle zmo zc zlo zhi) := hD
      refine lv_iconst (v := (1 : Int32)) hx hb dX8_name_37 (by decide) ?_
      obtain rfl := Option.some.inj hres
      exact ret_I (r := (1 : Int32)) C0 rfl hP hD hS dX8_name_38
    · replace hres := mi_p c_4 hres
      refine lv_iconst (v := (0 : Int32)) hx hb dX8_name_21 (by decide) ?_
      obtain rfl := Option.some.inj hres
      exact ret_I (r := (0 : Int32)) C0 rfl hP hD hS dX8_name_22
/-! ### SumsOverModel.span(III)Z -/
theorem mwX8_span_0 : (.constantLong RX8 93 (-100000) : Cond) ∈ wsX8_span := by decide +kernel
theorem mwX8_span_1 : (.constantLong RX8 95 (100000) : Cond) ∈ wsX8_span := by decide +kernel
set_option maxRecDepth 20000 in
theorem hwX8_span_RX8 : ∀ w ∈ u_ws RX8 TX8 26, w ∈ wsX8_span := by decide +kernel
theorem mwX8_span_2 : (.fieldLink RX8 17 "SumsOverModel" "from" "[I" : Cond) ∈ wsX8_span := by decide +kernel
theorem mwX8_span_3 : (.fieldLink RX8 20 "SumsOverModel" "to" "[I" : Cond) ∈ wsX8_span := by decide +kernel
def rmX8_span : Room := { frames := 1, cells := 0, slots := 0, locals := 25 }
set_option maxHeartbeats 4000000 in
set_option maxRecDepth 100000 in
theorem kX8_span (l : Launch) (dC : Nat → ClassId) (dI : Nat → Nat → Nat) (q : Nat → Nat) (cI cJ cZ : ClassId) (zn : Int32) (zm : Int32) (zj : Int32) (zf : Int32) (zr : Int32) (zw : Nat → Int32) (zs : Nat → Int32) (zfr : Nat → Int32) (zto : Nat → Int32) (zk : Nat → Int32) (zt : Nat → Int32) (za : Nat → Int32) (zb : Nat → Int32) (zq : Nat → Int32) (zl : Nat → Int32) (zv : Nat → Int64) (zo : Nat → Int32) (zu : Nat → Int32) (zov : Nat → Int32) (ztu : Nat → Int32) (zsh : Nat → Int32) (zle : Nat → Int64) (zmo : Nat → Int64) (zc : Nat → Int32) (zlo : Nat → Int64) (zhi : Nat → Int64) (x1 : Int32) (x2 : Int32) (x3 : Int32) (RES : Int32 × (Nat → Int32) × (Nat → Int32)) (hres : mX8_span zfr zto x1 x2 x3 = some RES) : CtI l yX8_span wsX8_span rmX8_span (dC, dI) (ty3 cI cJ cZ) (wM q cI cJ cZ zn zm zj zf zr zw zs zfr zto zk zt za zb zq zl zv zo zu zov ztu zsh zle zmo zc zlo zhi) [.ref (q 0), .int x1, .int x2, .int x3] RES.1 (wM q cI cJ cZ zn zm zj zf zr zw zs RES.2.1 RES.2.2 zk zt za zb zq zl zv zo zu zov ztu zsh zle zmo zc zlo zhi) := by
  intro sz
  refine ct_entry (cc := cX8_span) (maxL := 4) (ret := some .boolean) (own := RX8) (by decide) rfl rfl (Nat.le_of_ble_eq_true rfl) (ll := [(0, .ref (q 0)), (1, .int x1), (2, .int x2), (3, .int x3)]) rfl ?_
  intro p e s m args below meth c hsz C0 _ hP hD ls hl
  have C1 := C0
  obtain ⟨hx, hb, hr, hml, hown, hts, hlocks, hN, hK, hA⟩ := C1
  have hS : va_S (va_A (wM q cI cJ cZ zn zm zj zf zr zw zs zfr zto zk zt za zb zq zl zv zo zu zov ztu zsh zle zmo zc zlo zhi) sz) s.heap s.heap [] := va_S.rf
  generalize va_A (wM q cI cJ cZ zn zm zj zf zr zw zs zfr zto zk zt za zb zq zl zv zo zu zov ztu zsh zle zmo zc zlo zhi) sz = A at C0 hD hA hS ⊢
  show W p l e rmX8_span s m args below meth c s.heap [] 0 0 (QI below args s A (dC, dI) (ty3 cI cJ cZ) RES.1 (wM q cI cJ cZ zn zm zj zf zr zw zs RES.2.1 RES.2.2 zk zt za zb zq zl zv zo zu zov ztu zsh zle zmo zc zlo zhi)) (F0 m 0 ls [])
  unfold mX8_span at hres
  refine lv_iload_n hx hb dX8_span_0 rfl (lv_at hl 1 rfl) ?_
  refine lv_i2l (v := (x1).toInt64) hx hb dX8_span_1 rfl ?_
  refine lv_lconst (v := (0 : Int64)) hx hb dX8_span_2 (by decide) ?_
  refine lv_lconst (v := (1 : Int64)) hx hb dX8_span_3 (by decide) ?_
  obtain ⟨u1, hu1, hres⟩ := mi_b hres
  refine call_I C0 (run_S C0 (rest := []) (kX8_in l (dC, dI) (ty3 cI cJ cZ) (wM q cI cJ cZ zn zm zj zf zr zw zs zfr zto zk zt za zb zq zl zv zo zu zov ztu zsh zle zmo zc zlo zhi) ((x1).toInt64) (0 : Int64) (1 : Int64) u1 hu1 _) (va_cwS 3 hts gX8_span_X8_in rfl rfl rfl (by decide +kernel) ⟨by decide, by decide⟩) hP hD rfl hl.1 rfl (Nat.le_of_ble_eq_true rfl) dX8_span_4) hD hS (fun H locs hP hD hS => ?_)
  refine lv_if_eq (tgt := 45) hx hb dX8_span_7 (by decide) (fun c_2 => ?_) (fun c_2 => ?_)
  · replace hres := mi_p c_2 hres
    refine lv_iconst (v := (0 : Int32)) hx hb dX8_span_45 (by decide) ?_
    obtain rfl := Option.some.inj hres
    exact ret_I (r := (0 : Int32)) C0 rfl hP hD hS dX8_span_46
  · replace hres := mi_n c_2 hres
    refine lv_iload_n hx hb dX8_span_10 rfl (lv_at hl 2 rfl) ?_
    refine lv_i2l (v := (x2).toInt64) hx hb dX8_span_11 rfl ?_
    refine lv_ldc2 (own := RX8) (v := (-100000 : Int64)) hx hb hown (hts _ mwX8_span_0) dX8_span_12 ?_
    refine lv_ldc2 (own := RX8) (v := (100000 : Int64)) hx hb hown (hts _ mwX8_span_1) dX8_span_15 ?_
    obtain ⟨u3, hu3, hres⟩ := mi_b hres
    refine call_I C0 (run_S C0 (rest := []) (kX8_in l (dC, dI) (ty3 cI cJ cZ) (wM q cI cJ cZ zn zm zj zf zr zw zs zfr zto zk zt za zb zq zl zv zo zu zov ztu zsh zle zmo zc zlo zhi) ((x2).toInt64) (-100000 : Int64) (100000 : Int64) u3 hu3 _) (va_cwS 3 hts gX8_span_X8_in rfl rfl rfl (by decide +kernel) ⟨by decide, by decide⟩) hP hD rfl hl.1 rfl (Nat.le_of_ble_eq_true rfl) dX8_span_18) hD hS (fun H locs hP hD hS => ?_)
    refine lv_if_eq (tgt := 45) hx hb dX8_span_21 (by decide) (fun c_4 => ?_) (fun c_4 => ?_)
    · replace hres := mi_p c_4 hres
      refine lv_iconst (v := (0 : Int32)) hx hb dX8_span_45 (by decide) ?_
      obtain rfl := Option.some.inj hres
      exact ret_I (r := (0 : Int32)) C0 rfl hP hD hS dX8_span_46
    · replace hres := mi_n c_4 hres
      refine lv_iload_n hx hb dX8_span_24 rfl (lv_at hl 3 rfl) ?_
      refine lv_i2l (v := (x3).toInt64) hx hb dX8_span_25 rfl ?_
      refine lv_iload_n hx hb dX8_span_26 rfl (lv_at hl 2 rfl) ?_
      refine lv_i2l (v := (x2).toInt64) hx hb dX8_span_27 rfl ?_
      refine lv_ldc2 (own := RX8) (v := (100000 : Int64)) hx hb hown (hts _ mwX8_span_1) dX8_span_28 ?_
      obtain ⟨u5, hu5, hres⟩ := mi_b hres
      refine call_I C0 (run_S C0 (rest := []) (kX8_in l (dC, dI) (ty3 cI cJ cZ) (wM q cI cJ cZ zn zm zj zf zr zw zs zfr zto zk zt za zb zq zl zv zo zu zov ztu zsh zle zmo zc zlo zhi) ((x3).toInt64) ((x2).toInt64) (100000 : Int64) u5 hu5 _) (va_cwS 3 hts gX8_span_X8_in rfl rfl rfl (by decide +kernel) ⟨by decide, by decide⟩) hP hD rfl hl.1 rfl (Nat.le_of_ble_eq_true rfl) dX8_span_31) hD hS (fun H locs hP hD hS => ?_)
      refine lv_if_eq (tgt := 45) hx hb dX8_span_34 (by decide) (fun c_6 => ?_) (fun c_6 => ?_)
      · replace hres := mi_p c_6 hres
        refine lv_iconst (v := (0 : Int32)) hx hb dX8_span_45 (by decide) ?_
        obtain rfl := Option.some.inj hres
        exact ret_I (r := (0 : Int32)) C0 rfl hP hD hS dX8_span_46
      · replace hres := mi_n c_6 hres
        refine lv_iload_n hx hb dX8_span_37 rfl (lv_at hl 3 rfl) ?_
        refine lv_iload_n hx hb dX8_span_38 rfl (lv_at hl 2 rfl) ?_
        refine lv_isub hx hb dX8_span_39 ?_
        refine lv_bipush (v := (31 : Int32)) hx hb dX8_span_40 (by decide) ?_
        refine lv_icmp_le (tgt := 47) hx hb dX8_span_42 (by decide) (fun c_7 => ?_) (fun c_7 => ?_)
        · replace hres := mi_p c_7 hres
          refine lv_aload_n hx hb dX8_span_47 rfl (lv_at hl 0 rfl) ?_
          refine va_get (D := (dC, dI)) (ci := 8) (v := .ref (q 3)) (C := RX8) (T := TX8) (N := 26) hx hb hts hwX8_span_RX8 hown hK hP 0 rfl rfl 2 (by decide) (hts _ mwX8_span_2) (fun _ h9 => h9) rfl dX8_span_48 ?_
          refine lv_iload_n hx hb dX8_span_51 rfl (lv_at hl 1 rfl) ?_
          refine lv_iload_n hx hb dX8_span_52 rfl (lv_at hl 2 rfl) ?_
          obtain ⟨g_8, hres⟩ := mi_g hres
          refine va_iast (D := (dC, dI)) (cl := vwCl) hx hb hK hP hD hS 3 0 rfl rfl g_8 dX8_span_53 (fun H locs hP hD hS => ?_)
          have hP : va_P (dC, dI) vwCl (wM q cI cJ cZ zn zm zj zf zr zw zs (upd zfr (Int32.toNatClampNeg x1) x2) zto zk zt za zb zq zl zv zo zu zov ztu zsh zle zmo zc zlo zhi) H := hP
          have hD : va_D A (wM q cI cJ cZ zn zm zj zf zr zw zs (upd zfr (Int32.toNatClampNeg x1) x2) zto zk zt za zb zq zl zv zo zu zov ztu zsh zle zmo zc zlo zhi) := hD
          refine lv_aload_n hx hb dX8_span_54 rfl (lv_at hl 0 rfl) ?_
          refine va_get (D := (dC, dI)) (ci := 8) (v := .ref (q 4)) (C := RX8) (T := TX8) (N := 26) hx hb hts hwX8_span_RX8 hown hK hP 0 rfl rfl 3 (by decide) (hts _ mwX8_span_3) (fun _ h9 => h9) rfl dX8_span_55 ?_
          refine lv_iload_n hx hb dX8_span_58 rfl (lv_at hl 1 rfl) ?_
          refine lv_iload_n hx hb dX8_span_59 rfl (lv_at hl 3 rfl) ?_
          refine va_iast (D := (dC, dI)) (cl := vwCl) hx hb hK hP hD hS 4 0 rfl rfl g_8 dX8_span_60 (fun H locs hP hD hS => ?_)
          have hP : va_P (dC, dI) vwCl (wM q cI cJ cZ zn zm zj zf zr zw zs (upd zfr (Int32.toNatClampNeg x1) x2) (upd zto (Int32.toNatClampNeg x1) x3) zk zt za zb zq zl zv zo zu zov ztu zsh zle zmo zc zlo zhi) H := hP
          have hD : va_D A (wM q cI cJ cZ zn zm zj zf zr zw zs (upd zfr (Int32.toNatClampNeg x1) x2) (upd zto (Int32.toNatClampNeg x1) x3) zk zt za zb zq zl zv zo zu zov ztu zsh zle zmo zc zlo zhi) := hD
          refine lv_iconst (v := (1 : Int32)) hx hb dX8_span_61 (by decide) ?_
          obtain rfl := Option.some.inj hres
          exact ret_I (r := (1 : Int32)) C0 rfl hP hD hS dX8_span_62
        · replace hres := mi_n c_7 hres
          refine lv_iconst (v := (0 : Int32)) hx hb dX8_span_45 (by decide) ?_
          obtain rfl := Option.some.inj hres
          exact ret_I (r := (0 : Int32)) C0 rfl hP hD hS dX8_span_46
/-! ### SumsOverModel.isOpen()Z -/
set_option maxRecDepth 20000 in
theorem hwX8_isOpen_RX8 : ∀ w ∈ u_ws RX8 TX8 26, w ∈ wsX8_isOpen := by decide +kernel
theorem mwX8_isOpen_0 : (.fieldLink RX8 75 "SumsOverModel" "steps" "I" : Cond) ∈ wsX8_isOpen := by decide +kernel
theorem mwX8_isOpen_1 : (.fieldLink RX8 23 "SumsOverModel" "kind" "[I" : Cond) ∈ wsX8_isOpen := by decide +kernel
def rmX8_isOpen : Room := { frames := 0, cells := 0, slots := 0, locals := 0 }
def iX8_isOpen_L4 (p : Program) (l : Launch) (e : Env) (s : State) (m : MethodId) (args : Array Value) (below : List Frame) (meth : Method) (c : Code) (A : Nat → Prop) (dC : Nat → ClassId) (dI : Nat → Nat → Nat) (q : Nat → Nat) (cI cJ cZ : ClassId) (zn : Int32) (zm : Int32) (zj : Int32) (zf : Int32) (zr : Int32) (zw : Nat → Int32) (zs : Nat → Int32) (zfr : Nat → Int32) (zto : Nat → Int32) (zk : Nat → Int32) (zt : Nat → Int32) (za : Nat → Int32) (zb : Nat → Int32) (zq : Nat → Int32) (zl : Nat → Int32) (zv : Nat → Int64) (zo : Nat → Int32) (zu : Nat → Int32) (zov : Nat → Int32) (ztu : Nat → Int32) (zsh : Nat → Int32) (zle : Nat → Int64) (zmo : Nat → Int64) (zc : Nat → Int32) (zlo : Nat → Int64) (zhi : Nat → Int64)  (RES : Int32) (k : (Int32) → (Int32) → Option (Int32)) : Prop := ∀ (x1 : Int32) (x2 : Int32) (H : Heap) (locs : List Loc) (ls : Array Slot), va_P (dC, dI) vwCl (wM q cI cJ cZ zn zm zj zf zr zw zs zfr zto zk zt za zb zq zl zv zo zu zov ztu zsh zle zmo zc zlo zhi) H → va_D A (wM q cI cJ cZ zn zm zj zf zr zw zs zfr zto zk zt za zb zq zl zv zo zu zov ztu zsh zle zmo zc zlo zhi) → va_S A s.heap H locs → lv_has ls 3 [(0, .ref (q 0)), (1, .int x1), (2, .int x2)] → k x1 x2 = some RES → W p l e rmX8_isOpen s m args below meth c H locs 0 0 (QI below args s A (dC, dI) (ty3 cI cJ cZ) RES (wM q cI cJ cZ zn zm zj zf zr zw zs zfr zto zk zt za zb zq zl zv zo zu zov ztu zsh zle zmo zc zlo zhi)) (F0 m 4 ls [])
set_option maxHeartbeats 4000000 in
set_option maxRecDepth 100000 in
theorem zX8_isOpen_L4 {p : Program} {l : Launch} {e : Env} {s : State} {m : MethodId} {args : Array Value} {below : List Frame} {meth : Method} {c : Code} {A : Nat → Prop} {dC : Nat → ClassId} {dI : Nat → Nat → Nat} {q : Nat → Nat} {cI cJ cZ : ClassId} {zn : Int32} {zm : Int32} {zj : Int32} {zf : Int32} {zr : Int32} {zw : Nat → Int32} {zs : Nat → Int32} {zfr : Nat → Int32} {zto : Nat → Int32} {zk : Nat → Int32} {zt : Nat → Int32} {za : Nat → Int32} {zb : Nat → Int32} {zq : Nat → Int32} {zl : Nat → Int32} {zv : Nat → Int64} {zo : Nat → Int32} {zu : Nat → Int32} {zov : Nat → Int32} {ztu : Nat → Int32} {zsh : Nat → Int32} {zle : Nat → Int64} {zmo : Nat → Int64} {zc : Nat → Int32} {zlo : Nat → Int64} {zhi : Nat → Int64}  (C0 : Cx p s m args meth c cX8_isOpen 3 (some .boolean) RX8 wsX8_isOpen A (dC, dI) (ty3 cI cJ cZ)) {RES : Int32}  : ∀ n : Nat, iX8_isOpen_L4 p l e s m args below meth c A dC dI q cI cJ cZ zn zm zj zf zr zw zs zfr zto zk zt za zb zq zl zv zo zu zov ztu zsh zle zmo zc zlo zhi RES (mX8_isOpen_L4 zn zk n) := by
  have C1 := C0
  obtain ⟨hx, hb, hr, hml, hown, hts, hlocks, hN, hK, hA⟩ := C1
  intro n
  induction n with
  | zero =>
    intro x1 x2 H locs ls hP hD hS hl hres
    exact mi_0 hres
  | succ n ih =>
    intro x1 x2 H locs ls hP hD hS hl hres
    rw [mX8_isOpen_L4] at hres
    refine lv_iload_n hx hb dX8_isOpen_4 rfl (lv_at hl 2 rfl) ?_
    refine lv_aload_n hx hb dX8_isOpen_5 rfl (lv_at hl 0 rfl) ?_
    refine va_get (D := (dC, dI)) (ci := 8) (v := .int zn) (C := RX8) (T := TX8) (N := 26) hx hb hts hwX8_isOpen_RX8 hown hK hP 0 rfl rfl 9 (by decide) (hts _ mwX8_isOpen_0) (fun _ h9 => h9) rfl dX8_isOpen_6 ?_
    refine lv_icmp_ge (tgt := 50) hx hb dX8_isOpen_9 (by decide) (fun c_1 => ?_) (fun c_1 => ?_)
    · replace hres := mi_p c_1 hres
      refine lv_iload_n hx hb dX8_isOpen_50 rfl (lv_at hl 1 rfl) ?_
      obtain ⟨g_2, hres⟩ := mi_g hres
      obtain rfl := Option.some.inj hres
      exact ret_I (r := x1) C0 (narrow_z (Decidable.not_not.mp g_2)) hP hD hS dX8_isOpen_51
    · replace hres := mi_n c_1 hres
      refine lv_aload_n hx hb dX8_isOpen_12 rfl (lv_at hl 0 rfl) ?_
      refine va_get (D := (dC, dI)) (ci := 8) (v := .ref (q 5)) (C := RX8) (T := TX8) (N := 26) hx hb hts hwX8_isOpen_RX8 hown hK hP 0 rfl rfl 4 (by decide) (hts _ mwX8_isOpen_1) (fun _ h9 => h9) rfl dX8_isOpen_13 ?_
      refine lv_iload_n hx hb dX8_isOpen_16 rfl (lv_at hl 2 rfl) ?_
      obtain ⟨g_3, hres⟩ := mi_g hres
      refine va_iald (D := (dC, dI)) (cl := vwCl) hx hb hK hP 5 0 rfl rfl g_3 dX8_isOpen_17 ?_
      refine lv_bipush (v := (8 : Int32)) hx hb dX8_isOpen_18 (by decide) ?_
      refine lv_icmp_eq (tgt := 38) hx hb dX8_isOpen_20 (by decide) (fun c_4 => ?_) (fun c_4 => ?_)
      · replace hres := mi_p c_4 hres
        refine lv_iconst (v := (1 : Int32)) hx hb dX8_isOpen_38 (by decide) ?_
        refine lv_goto (tgt := 43) hx hb dX8_isOpen_39 (by decide) ?_
        refine lv_istore_n (lv' := [(1, .int (1 : Int32)), (0, .ref (q 0)), (2, .int x2)]) hx hb dX8_isOpen_43 rfl hl (by decide) rfl (fun ls hl => ?_)
        refine lv_iinc (v := x2 + (1 : Int32)) (lv' := [(2, .int (x2 + (1 : Int32))), (1, .int (1 : Int32)), (0, .ref (q 0))]) hx hb dX8_isOpen_44 hl (k := 2) rfl rfl (by decide) rfl (fun ls hl => ?_)
        refine lv_goto (tgt := 4) hx hb dX8_isOpen_47 (by decide) ?_
        exact ih (1 : Int32) (x2 + (1 : Int32)) _ _ ls hP hD hS (lv_sub hl [2, 1, 0] rfl) hres
      · replace hres := mi_n c_4 hres
        refine lv_aload_n hx hb dX8_isOpen_23 rfl (lv_at hl 0 rfl) ?_
        refine va_get (D := (dC, dI)) (ci := 8) (v := .ref (q 5)) (C := RX8) (T := TX8) (N := 26) hx hb hts hwX8_isOpen_RX8 hown hK hP 0 rfl rfl 4 (by decide) (hts _ mwX8_isOpen_1) (fun _ h9 => h9) rfl dX8_isOpen_24 ?_
        refine lv_iload_n hx hb dX8_isOpen_27 rfl (lv_at hl 2 rfl) ?_
        refine va_iald (D := (dC, dI)) (cl := vwCl) hx hb hK hP 5 0 rfl rfl g_3 dX8_isOpen_28 ?_
        refine lv_bipush (v := (9 : Int32)) hx hb dX8_isOpen_29 (by decide) ?_
        refine lv_icmp_eq (tgt := 42) hx hb dX8_isOpen_31 (by decide) (fun c_5 => ?_) (fun c_5 => ?_)
        · replace hres := mi_p c_5 hres
          refine lv_iconst (v := (0 : Int32)) hx hb dX8_isOpen_42 (by decide) ?_
          refine lv_istore_n (lv' := [(1, .int (0 : Int32)), (0, .ref (q 0)), (2, .int x2)]) hx hb dX8_isOpen_43 rfl hl (by decide) rfl (fun ls hl => ?_)
          refine lv_iinc (v := x2 + (1 : Int32)) (lv' := [(2, .int (x2 + (1 : Int32))), (1, .int (0 : Int32)), (0, .ref (q 0))]) hx hb dX8_isOpen_44 hl (k := 2) rfl rfl (by decide) rfl (fun ls hl => ?_)
          refine lv_goto (tgt := 4) hx hb dX8_isOpen_47 (by decide) ?_
          exact ih (0 : Int32) (x2 + (1 : Int32)) _ _ ls hP hD hS (lv_sub hl [2, 1, 0] rfl) hres
        · replace hres := mi_n c_5 hres
          refine lv_iload_n hx hb dX8_isOpen_34 rfl (lv_at hl 1 rfl) ?_
          refine lv_if_eq (tgt := 42) hx hb dX8_isOpen_35 (by decide) (fun c_6 => ?_) (fun c_6 => ?_)
          · replace hres := mi_p c_6 hres
            refine lv_iconst (v := (0 : Int32)) hx hb dX8_isOpen_42 (by decide) ?_
            refine lv_istore_n (lv' := [(1, .int (0 : Int32)), (0, .ref (q 0)), (2, .int x2)]) hx hb dX8_isOpen_43 rfl hl (by decide) rfl (fun ls hl => ?_)
            refine lv_iinc (v := x2 + (1 : Int32)) (lv' := [(2, .int (x2 + (1 : Int32))), (1, .int (0 : Int32)), (0, .ref (q 0))]) hx hb dX8_isOpen_44 hl (k := 2) rfl rfl (by decide) rfl (fun ls hl => ?_)
            refine lv_goto (tgt := 4) hx hb dX8_isOpen_47 (by decide) ?_
            exact ih (0 : Int32) (x2 + (1 : Int32)) _ _ ls hP hD hS (lv_sub hl [2, 1, 0] rfl) hres
          · replace hres := mi_n c_6 hres
            refine lv_iconst (v := (1 : Int32)) hx hb dX8_isOpen_38 (by decide) ?_
            refine lv_goto (tgt := 43) hx hb dX8_isOpen_39 (by decide) ?_
            refine lv_istore_n (lv' := [(1, .int (1 : Int32)), (0, .ref (q 0)), (2, .int x2)]) hx hb dX8_isOpen_43 rfl hl (by decide) rfl (fun ls hl => ?_)
            refine lv_iinc (v := x2 + (1 : Int32)) (lv' := [(2, .int (x2 + (1 : Int32))), (1, .int (1 : Int32)), (0, .ref (q 0))]) hx hb dX8_isOpen_44 hl (k := 2) rfl rfl (by decide) rfl (fun ls hl => ?_)
            refine lv_goto (tgt := 4) hx hb dX8_isOpen_47 (by decide) ?_
            exact ih (1 : Int32) (x2 + (1 : Int32)) _ _ ls hP hD hS (lv_sub hl [2, 1, 0] rfl) hres
set_option maxHeartbeats 4000000 in
set_option maxRecDepth 100000 in
theorem kX8_isOpen (l : Launch) (dC : Nat → ClassId) (dI : Nat → Nat → Nat) (q : Nat → Nat) (cI cJ cZ : ClassId) (zn : Int32) (zm : Int32) (zj : Int32) (zf : Int32) (zr : Int32) (zw : Nat → Int32) (zs : Nat → Int32) (zfr : Nat → Int32) (zto : Nat → Int32) (zk : Nat → Int32) (zt : Nat → Int32) (za : Nat → Int32) (zb : Nat → Int32) (zq : Nat → Int32) (zl : Nat → Int32) (zv : Nat → Int64) (zo : Nat → Int32) (zu : Nat → Int32) (zov : Nat → Int32) (ztu : Nat → Int32) (zsh : Nat → Int32) (zle : Nat → Int64) (zmo : Nat → Int64) (zc : Nat → Int32) (zlo : Nat → Int64) (zhi : Nat → Int64)  (RES : Int32) (hres : mX8_isOpen zn zk = some RES) : CtI l yX8_isOpen wsX8_isOpen rmX8_isOpen (dC, dI) (ty3 cI cJ cZ) (wM q cI cJ cZ zn zm zj zf zr zw zs zfr zto zk zt za zb zq zl zv zo zu zov ztu zsh zle zmo zc zlo zhi) [.ref (q 0)] RES (wM q cI cJ cZ zn zm zj zf zr zw zs zfr zto zk zt za zb zq zl zv zo zu zov ztu zsh zle zmo zc zlo zhi) := by
  intro sz
  refine ct_entry (cc := cX8_isOpen) (maxL := 3) (ret := some .boolean) (own := RX8) (by decide) rfl rfl (Nat.le_of_ble_eq_true rfl) (ll := [(0, .ref (q 0))]) rfl ?_
  intro p e s m args below meth c hsz C0 _ hP hD ls hl
  have C1 := C0
  obtain ⟨hx, hb, hr, hml, hown, hts, hlocks, hN, hK, hA⟩ := C1
  have hS : va_S (va_A (wM q cI cJ cZ zn zm zj zf zr zw zs zfr zto zk zt za zb zq zl zv zo zu zov ztu zsh zle zmo zc zlo zhi) sz) s.heap s.heap [] := va_S.rf
  generalize va_A (wM q cI cJ cZ zn zm zj zf zr zw zs zfr zto zk zt za zb zq zl zv zo zu zov ztu zsh zle zmo zc zlo zhi) sz = A at C0 hD hA hS ⊢
  show W p l e rmX8_isOpen s m args below meth c s.heap [] 0 0 (QI below args s A (dC, dI) (ty3 cI cJ cZ) RES (wM q cI cJ cZ zn zm zj zf zr zw zs zfr zto zk zt za zb zq zl zv zo zu zov ztu zsh zle zmo zc zlo zhi)) (F0 m 0 ls [])
  unfold mX8_isOpen at hres
  refine lv_iconst (v := (0 : Int32)) hx hb dX8_isOpen_0 (by decide) ?_
  refine lv_istore_n (lv' := [(1, .int (0 : Int32)), (0, .ref (q 0))]) hx hb dX8_isOpen_1 rfl hl (by decide) rfl (fun ls hl => ?_)
  refine lv_iconst (v := (0 : Int32)) hx hb dX8_isOpen_2 (by decide) ?_
  refine lv_istore_n (lv' := [(2, .int (0 : Int32)), (1, .int (0 : Int32)), (0, .ref (q 0))]) hx hb dX8_isOpen_3 rfl hl (by decide) rfl (fun ls hl => ?_)
  exact zX8_isOpen_L4 C0  FU (0 : Int32) (0 : Int32) _ _ ls hP hD hS (lv_sub hl [2, 1, 0] rfl) hres
/-! ### SumsOverModel.canBe(IIII)Z -/
theorem mwX8_canBe_0 : (.constantLong RX8 93 (-100000) : Cond) ∈ wsX8_canBe := by decide +kernel
theorem mwX8_canBe_1 : (.constantLong RX8 95 (100000) : Cond) ∈ wsX8_canBe := by decide +kernel
theorem mwX8_canBe_2 : (.constantLong RX8 97 (12) : Cond) ∈ wsX8_canBe := by decide +kernel
def rmX8_canBe : Room := { frames := 2, cells := 0, slots := 0, locals := 45 }
set_option maxHeartbeats 4000000 in
set_option maxRecDepth 100000 in
theorem kX8_canBe (l : Launch) (dC : Nat → ClassId) (dI : Nat → Nat → Nat) (q : Nat → Nat) (cI cJ cZ : ClassId) (zn : Int32) (zm : Int32) (zj : Int32) (zf : Int32) (zr : Int32) (zw : Nat → Int32) (zs : Nat → Int32) (zfr : Nat → Int32) (zto : Nat → Int32) (zk : Nat → Int32) (zt : Nat → Int32) (za : Nat → Int32) (zb : Nat → Int32) (zq : Nat → Int32) (zl : Nat → Int32) (zv : Nat → Int64) (zo : Nat → Int32) (zu : Nat → Int32) (zov : Nat → Int32) (ztu : Nat → Int32) (zsh : Nat → Int32) (zle : Nat → Int64) (zmo : Nat → Int64) (zc : Nat → Int32) (zlo : Nat → Int64) (zhi : Nat → Int64) (x1 : Int32) (x2 : Int32) (x3 : Int32) (x4 : Int32) (RES : Int32) (hres : mX8_canBe zn zk x1 x2 x3 x4 = some RES) : CtI l yX8_canBe wsX8_canBe rmX8_canBe (dC, dI) (ty3 cI cJ cZ) (wM q cI cJ cZ zn zm zj zf zr zw zs zfr zto zk zt za zb zq zl zv zo zu zov ztu zsh zle zmo zc zlo zhi) [.ref (q 0), .int x1, .int x2, .int x3, .int x4] RES (wM q cI cJ cZ zn zm zj zf zr zw zs zfr zto zk zt za zb zq zl zv zo zu zov ztu zsh zle zmo zc zlo zhi) := by
  intro sz
  refine ct_entry (cc := cX8_canBe) (maxL := 5) (ret := some .boolean) (own := RX8) (by decide) rfl rfl (Nat.le_of_ble_eq_true rfl) (ll := [(0, .ref (q 0)), (1, .int x1), (2, .int x2), (3, .int x3), (4, .int x4)]) rfl ?_
  intro p e s m args below meth c hsz C0 _ hP hD ls hl
  have C1 := C0
  obtain ⟨hx, hb, hr, hml, hown, hts, hlocks, hN, hK, hA⟩ := C1
  have hS : va_S (va_A (wM q cI cJ cZ zn zm zj zf zr zw zs zfr zto zk zt za zb zq zl zv zo zu zov ztu zsh zle zmo zc zlo zhi) sz) s.heap s.heap [] := va_S.rf
  generalize va_A (wM q cI cJ cZ zn zm zj zf zr zw zs zfr zto zk zt za zb zq zl zv zo zu zov ztu zsh zle zmo zc zlo zhi) sz = A at C0 hD hA hS ⊢
  show W p l e rmX8_canBe s m args below meth c s.heap [] 0 0 (QI below args s A (dC, dI) (ty3 cI cJ cZ) RES (wM q cI cJ cZ zn zm zj zf zr zw zs zfr zto zk zt za zb zq zl zv zo zu zov ztu zsh zle zmo zc zlo zhi)) (F0 m 0 ls [])
  unfold mX8_canBe at hres
  refine lv_iload_n hx hb dX8_canBe_0 rfl (lv_at hl 1 rfl) ?_
  by_cases c_1 : x1 = (0 : Int32)
  · replace hres := mi_p c_1 hres
    refine sw_tab (tgt := 56) hx hb dX8_canBe_1 (by decide) (by have h9 := c_1 <;> (rw [h9]; decide)) ?_
    refine lv_iload_n hx hb dX8_canBe_56 rfl (lv_at hl 2 rfl) ?_
    obtain ⟨u2, hu2, hres⟩ := mi_b hres
    refine call_I C0 (run_S C0 (rest := []) (kX8_isName l (dC, dI) (ty3 cI cJ cZ) (wM q cI cJ cZ zn zm zj zf zr zw zs zfr zto zk zt za zb zq zl zv zo zu zov ztu zsh zle zmo zc zlo zhi) x2 u2 hu2 _) (va_cwS 1 hts gX8_canBe_X8_isName rfl rfl rfl (by decide +kernel) ⟨by decide, by decide⟩) hP hD rfl hl.1 rfl (Nat.le_of_ble_eq_true rfl) dX8_canBe_57) hD hS (fun H locs hP hD hS => ?_)
    refine lv_if_eq (tgt := 82) hx hb dX8_canBe_60 (by decide) (fun c_3 => ?_) (fun c_3 => ?_)
    · replace hres := mi_p c_3 hres
      refine lv_iconst (v := (0 : Int32)) hx hb dX8_canBe_82 (by decide) ?_
      obtain rfl := Option.some.inj hres
      exact ret_I (r := (0 : Int32)) C0 rfl hP hD hS dX8_canBe_83
    · replace hres := mi_n c_3 hres
      refine lv_iload hx hb dX8_canBe_63 (lv_at hl 4 rfl) ?_
      refine lv_i2l (v := (x4).toInt64) hx hb dX8_canBe_65 rfl ?_
      refine lv_ldc2 (own := RX8) (v := (-100000 : Int64)) hx hb hown (hts _ mwX8_canBe_0) dX8_canBe_66 ?_
      refine lv_ldc2 (own := RX8) (v := (100000 : Int64)) hx hb hown (hts _ mwX8_canBe_1) dX8_canBe_69 ?_
      obtain ⟨u4, hu4, hres⟩ := mi_b hres
      refine call_I C0 (run_S C0 (rest := []) (kX8_in l (dC, dI) (ty3 cI cJ cZ) (wM q cI cJ cZ zn zm zj zf zr zw zs zfr zto zk zt za zb zq zl zv zo zu zov ztu zsh zle zmo zc zlo zhi) ((x4).toInt64) (-100000 : Int64) (100000 : Int64) u4 hu4 _) (va_cwS 3 hts gX8_canBe_X8_in rfl rfl rfl (by decide +kernel) ⟨by decide, by decide⟩) hP hD rfl hl.1 rfl (Nat.le_of_ble_eq_true rfl) dX8_canBe_72) hD hS (fun H locs hP hD hS => ?_)
      refine lv_if_eq (tgt := 82) hx hb dX8_canBe_75 (by decide) (fun c_5 => ?_) (fun c_5 => ?_)
      · replace hres := mi_p c_5 hres
        refine lv_iconst (v := (0 : Int32)) hx hb dX8_canBe_82 (by decide) ?_
        obtain rfl := Option.some.inj hres
        exact ret_I (r := (0 : Int32)) C0 rfl hP hD hS dX8_canBe_83
      · replace hres := mi_n c_5 hres
        refine lv_iconst (v := (1 : Int32)) hx hb dX8_canBe_78 (by decide) ?_
        refine lv_goto (tgt := 83) hx hb dX8_canBe_79 (by decide) ?_
        obtain rfl := Option.some.inj hres
        exact ret_I (r := (1 : Int32)) C0 rfl hP hD hS dX8_canBe_83
  · replace hres := mi_n c_1 hres
    by_cases c_6 : x1 = (1 : Int32)
    · replace hres := mi_p c_6 hres
      refine sw_tab (tgt := 84) hx hb dX8_canBe_1 (by decide) (by have h9 := c_6 <;> (rw [h9]; decide)) ?_
      refine lv_iload_n hx hb dX8_canBe_84 rfl (lv_at hl 2 rfl) ?_
      obtain ⟨u7, hu7, hres⟩ := mi_b hres
      refine call_I C0 (run_S C0 (rest := []) (kX8_isName l (dC, dI) (ty3 cI cJ cZ) (wM q cI cJ cZ zn zm zj zf zr zw zs zfr zto zk zt za zb zq zl zv zo zu zov ztu zsh zle zmo zc zlo zhi) x2 u7 hu7 _) (va_cwS 1 hts gX8_canBe_X8_isName rfl rfl rfl (by decide +kernel) ⟨by decide, by decide⟩) hP hD rfl hl.1 rfl (Nat.le_of_ble_eq_true rfl) dX8_canBe_85) hD hS (fun H locs hP hD hS => ?_)
      refine lv_if_eq (tgt := 102) hx hb dX8_canBe_88 (by decide) (fun c_8 => ?_) (fun c_8 => ?_)
      · replace hres := mi_p c_8 hres
        refine lv_iconst (v := (0 : Int32)) hx hb dX8_canBe_102 (by decide) ?_
        obtain rfl := Option.some.inj hres
        exact ret_I (r := (0 : Int32)) C0 rfl hP hD hS dX8_canBe_103
      · replace hres := mi_n c_8 hres
        refine lv_iload_n hx hb dX8_canBe_91 rfl (lv_at hl 3 rfl) ?_
        obtain ⟨u9, hu9, hres⟩ := mi_b hres
        refine call_I C0 (run_S C0 (rest := []) (kX8_isName l (dC, dI) (ty3 cI cJ cZ) (wM q cI cJ cZ zn zm zj zf zr zw zs zfr zto zk zt za zb zq zl zv zo zu zov ztu zsh zle zmo zc zlo zhi) x3 u9 hu9 _) (va_cwS 1 hts gX8_canBe_X8_isName rfl rfl rfl (by decide +kernel) ⟨by decide, by decide⟩) hP hD rfl hl.1 rfl (Nat.le_of_ble_eq_true rfl) dX8_canBe_92) hD hS (fun H locs hP hD hS => ?_)
        refine lv_if_eq (tgt := 102) hx hb dX8_canBe_95 (by decide) (fun c_10 => ?_) (fun c_10 => ?_)
        · replace hres := mi_p c_10 hres
          refine lv_iconst (v := (0 : Int32)) hx hb dX8_canBe_102 (by decide) ?_
          obtain rfl := Option.some.inj hres
          exact ret_I (r := (0 : Int32)) C0 rfl hP hD hS dX8_canBe_103
        · replace hres := mi_n c_10 hres
          refine lv_iconst (v := (1 : Int32)) hx hb dX8_canBe_98 (by decide) ?_
          refine lv_goto (tgt := 103) hx hb dX8_canBe_99 (by decide) ?_
          obtain rfl := Option.some.inj hres
          exact ret_I (r := (1 : Int32)) C0 rfl hP hD hS dX8_canBe_103
    · replace hres := mi_n c_6 hres
      by_cases c_11 : x1 = (2 : Int32) ∨ x1 = (3 : Int32) ∨ x1 = (4 : Int32) ∨ x1 = (6 : Int32) ∨ x1 = (7 : Int32)
      · replace hres := mi_p c_11 hres
        refine sw_tab (tgt := 104) hx hb dX8_canBe_1 (by decide) (by rcases c_11 with h9 | h9 | h9 | h9 | h9 <;> (rw [h9]; decide)) ?_
        refine lv_iload_n hx hb dX8_canBe_104 rfl (lv_at hl 2 rfl) ?_
        obtain ⟨u12, hu12, hres⟩ := mi_b hres
        refine call_I C0 (run_S C0 (rest := []) (kX8_isName l (dC, dI) (ty3 cI cJ cZ) (wM q cI cJ cZ zn zm zj zf zr zw zs zfr zto zk zt za zb zq zl zv zo zu zov ztu zsh zle zmo zc zlo zhi) x2 u12 hu12 _) (va_cwS 1 hts gX8_canBe_X8_isName rfl rfl rfl (by decide +kernel) ⟨by decide, by decide⟩) hP hD rfl hl.1 rfl (Nat.le_of_ble_eq_true rfl) dX8_canBe_105) hD hS (fun H locs hP hD hS => ?_)
        refine lv_if_eq (tgt := 130) hx hb dX8_canBe_108 (by decide) (fun c_13 => ?_) (fun c_13 => ?_)
        · replace hres := mi_p c_13 hres
          refine lv_iconst (v := (0 : Int32)) hx hb dX8_canBe_130 (by decide) ?_
          obtain rfl := Option.some.inj hres
          exact ret_I (r := (0 : Int32)) C0 rfl hP hD hS dX8_canBe_131
        · replace hres := mi_n c_13 hres
          refine lv_iload_n hx hb dX8_canBe_111 rfl (lv_at hl 3 rfl) ?_
          obtain ⟨u14, hu14, hres⟩ := mi_b hres
          refine call_I C0 (run_S C0 (rest := []) (kX8_isName l (dC, dI) (ty3 cI cJ cZ) (wM q cI cJ cZ zn zm zj zf zr zw zs zfr zto zk zt za zb zq zl zv zo zu zov ztu zsh zle zmo zc zlo zhi) x3 u14 hu14 _) (va_cwS 1 hts gX8_canBe_X8_isName rfl rfl rfl (by decide +kernel) ⟨by decide, by decide⟩) hP hD rfl hl.1 rfl (Nat.le_of_ble_eq_true rfl) dX8_canBe_112) hD hS (fun H locs hP hD hS => ?_)
          refine lv_if_eq (tgt := 130) hx hb dX8_canBe_115 (by decide) (fun c_15 => ?_) (fun c_15 => ?_)
          · replace hres := mi_p c_15 hres
            refine lv_iconst (v := (0 : Int32)) hx hb dX8_canBe_130 (by decide) ?_
            obtain rfl := Option.some.inj hres
            exact ret_I (r := (0 : Int32)) C0 rfl hP hD hS dX8_canBe_131
          · replace hres := mi_n c_15 hres
            refine lv_iload hx hb dX8_canBe_118 (lv_at hl 4 rfl) ?_
            obtain ⟨u16, hu16, hres⟩ := mi_b hres
            refine call_I C0 (run_S C0 (rest := []) (kX8_isName l (dC, dI) (ty3 cI cJ cZ) (wM q cI cJ cZ zn zm zj zf zr zw zs zfr zto zk zt za zb zq zl zv zo zu zov ztu zsh zle zmo zc zlo zhi) x4 u16 hu16 _) (va_cwS 1 hts gX8_canBe_X8_isName rfl rfl rfl (by decide +kernel) ⟨by decide, by decide⟩) hP hD rfl hl.1 rfl (Nat.le_of_ble_eq_true rfl) dX8_canBe_120) hD hS (fun H locs hP hD hS => ?_)
            refine lv_if_eq (tgt := 130) hx hb dX8_canBe_123 (by decide) (fun c_17 => ?_) (fun c_17 => ?_)
            · replace hres := mi_p c_17 hres
              refine lv_iconst (v := (0 : Int32)) hx hb dX8_canBe_130 (by decide) ?_
              obtain rfl := Option.some.inj hres
              exact ret_I (r := (0 : Int32)) C0 rfl hP hD hS dX8_canBe_131
            · replace hres := mi_n c_17 hres
              refine lv_iconst (v := (1 : Int32)) hx hb dX8_canBe_126 (by decide) ?_
              refine lv_goto (tgt := 131) hx hb dX8_canBe_127 (by decide) ?_
              obtain rfl := Option.some.inj hres
              exact ret_I (r := (1 : Int32)) C0 rfl hP hD hS dX8_canBe_131
      · replace hres := mi_n c_11 hres
        by_cases c_18 : x1 = (5 : Int32)
        · replace hres := mi_p c_18 hres
          refine sw_tab (tgt := 132) hx hb dX8_canBe_1 (by decide) (by have h9 := c_18 <;> (rw [h9]; decide)) ?_
          refine lv_iload_n hx hb dX8_canBe_132 rfl (lv_at hl 2 rfl) ?_
          obtain ⟨u19, hu19, hres⟩ := mi_b hres
          refine call_I C0 (run_S C0 (rest := []) (kX8_isName l (dC, dI) (ty3 cI cJ cZ) (wM q cI cJ cZ zn zm zj zf zr zw zs zfr zto zk zt za zb zq zl zv zo zu zov ztu zsh zle zmo zc zlo zhi) x2 u19 hu19 _) (va_cwS 1 hts gX8_canBe_X8_isName rfl rfl rfl (by decide +kernel) ⟨by decide, by decide⟩) hP hD rfl hl.1 rfl (Nat.le_of_ble_eq_true rfl) dX8_canBe_133) hD hS (fun H locs hP hD hS => ?_)
          refine lv_if_eq (tgt := 163) hx hb dX8_canBe_136 (by decide) (fun c_20 => ?_) (fun c_20 => ?_)
          · replace hres := mi_p c_20 hres
            refine lv_iconst (v := (0 : Int32)) hx hb dX8_canBe_163 (by decide) ?_
            obtain rfl := Option.some.inj hres
            exact ret_I (r := (0 : Int32)) C0 rfl hP hD hS dX8_canBe_164
          · replace hres := mi_n c_20 hres
            refine lv_iload_n hx hb dX8_canBe_139 rfl (lv_at hl 3 rfl) ?_
            obtain ⟨u21, hu21, hres⟩ := mi_b hres
            refine call_I C0 (run_S C0 (rest := []) (kX8_isName l (dC, dI) (ty3 cI cJ cZ) (wM q cI cJ cZ zn zm zj zf zr zw zs zfr zto zk zt za zb zq zl zv zo zu zov ztu zsh zle zmo zc zlo zhi) x3 u21 hu21 _) (va_cwS 1 hts gX8_canBe_X8_isName rfl rfl rfl (by decide +kernel) ⟨by decide, by decide⟩) hP hD rfl hl.1 rfl (Nat.le_of_ble_eq_true rfl) dX8_canBe_140) hD hS (fun H locs hP hD hS => ?_)
            refine lv_if_eq (tgt := 163) hx hb dX8_canBe_143 (by decide) (fun c_22 => ?_) (fun c_22 => ?_)
            · replace hres := mi_p c_22 hres
              refine lv_iconst (v := (0 : Int32)) hx hb dX8_canBe_163 (by decide) ?_
              obtain rfl := Option.some.inj hres
              exact ret_I (r := (0 : Int32)) C0 rfl hP hD hS dX8_canBe_164
            · replace hres := mi_n c_22 hres
              refine lv_iload hx hb dX8_canBe_146 (lv_at hl 4 rfl) ?_
              refine lv_i2l (v := (x4).toInt64) hx hb dX8_canBe_148 rfl ?_
              refine lv_lconst (v := (0 : Int64)) hx hb dX8_canBe_149 (by decide) ?_
              refine lv_ldc2 (own := RX8) (v := (12 : Int64)) hx hb hown (hts _ mwX8_canBe_2) dX8_canBe_150 ?_
              obtain ⟨u23, hu23, hres⟩ := mi_b hres
              refine call_I C0 (run_S C0 (rest := []) (kX8_in l (dC, dI) (ty3 cI cJ cZ) (wM q cI cJ cZ zn zm zj zf zr zw zs zfr zto zk zt za zb zq zl zv zo zu zov ztu zsh zle zmo zc zlo zhi) ((x4).toInt64) (0 : Int64) (12 : Int64) u23 hu23 _) (va_cwS 3 hts gX8_canBe_X8_in rfl rfl rfl (by decide +kernel) ⟨by decide, by decide⟩) hP hD rfl hl.1 rfl (Nat.le_of_ble_eq_true rfl) dX8_canBe_153) hD hS (fun H locs hP hD hS => ?_)
              refine lv_if_eq (tgt := 163) hx hb dX8_canBe_156 (by decide) (fun c_24 => ?_) (fun c_24 => ?_)
              · replace hres := mi_p c_24 hres
                refine lv_iconst (v := (0 : Int32)) hx hb dX8_canBe_163 (by decide) ?_
                obtain rfl := Option.some.inj hres
                exact ret_I (r := (0 : Int32)) C0 rfl hP hD hS dX8_canBe_164
              · replace hres := mi_n c_24 hres
                refine lv_iconst (v := (1 : Int32)) hx hb dX8_canBe_159 (by decide) ?_
                refine lv_goto (tgt := 164) hx hb dX8_canBe_160 (by decide) ?_
                obtain rfl := Option.some.inj hres
                exact ret_I (r := (1 : Int32)) C0 rfl hP hD hS dX8_canBe_164
        · replace hres := mi_n c_18 hres
          by_cases c_25 : x1 = (8 : Int32)
          · replace hres := mi_p c_25 hres
            refine sw_tab (tgt := 165) hx hb dX8_canBe_1 (by decide) (by have h9 := c_25 <;> (rw [h9]; decide)) ?_
            refine lv_iload hx hb dX8_canBe_165 (lv_at hl 4 rfl) ?_
            refine lv_i2l (v := (x4).toInt64) hx hb dX8_canBe_167 rfl ?_
            refine lv_lconst (v := (1 : Int64)) hx hb dX8_canBe_168 (by decide) ?_
            refine lv_ldc2 (own := RX8) (v := (12 : Int64)) hx hb hown (hts _ mwX8_canBe_2) dX8_canBe_169 ?_
            obtain ⟨u26, hu26, hres⟩ := mi_b hres
            refine call_I C0 (run_S C0 (rest := []) (kX8_in l (dC, dI) (ty3 cI cJ cZ) (wM q cI cJ cZ zn zm zj zf zr zw zs zfr zto zk zt za zb zq zl zv zo zu zov ztu zsh zle zmo zc zlo zhi) ((x4).toInt64) (1 : Int64) (12 : Int64) u26 hu26 _) (va_cwS 3 hts gX8_canBe_X8_in rfl rfl rfl (by decide +kernel) ⟨by decide, by decide⟩) hP hD rfl hl.1 rfl (Nat.le_of_ble_eq_true rfl) dX8_canBe_172) hD hS (fun H locs hP hD hS => ?_)
            refine lv_if_eq (tgt := 189) hx hb dX8_canBe_175 (by decide) (fun c_27 => ?_) (fun c_27 => ?_)
            · replace hres := mi_p c_27 hres
              refine lv_iconst (v := (0 : Int32)) hx hb dX8_canBe_189 (by decide) ?_
              obtain rfl := Option.some.inj hres
              exact ret_I (r := (0 : Int32)) C0 rfl hP hD hS dX8_canBe_190
            · replace hres := mi_n c_27 hres
              refine lv_aload_n hx hb dX8_canBe_178 rfl (lv_at hl 0 rfl) ?_
              obtain ⟨u28, hu28, hres⟩ := mi_b hres
              refine call_I C0 (run_V C0 (rest := []) (kX8_isOpen l dC dI q cI cJ cZ zn zm zj zf zr zw zs zfr zto zk zt za zb zq zl zv zo zu zov ztu zsh zle zmo zc zlo zhi   u28 hu28 _) (cwV 0 hts gX8_canBe_X8_isOpen rfl rfl rfl (by decide +kernel) ⟨by decide, by decide⟩) hP hD (ci := 8) (q0 := 0) rfl rfl rfl hl.1 rfl (Nat.le_of_ble_eq_true rfl) dX8_canBe_179) hD hS (fun H locs hP hD hS => ?_)
              refine lv_if_ne (tgt := 189) hx hb dX8_canBe_182 (by decide) (fun c_29 => ?_) (fun c_29 => ?_)
              · replace hres := mi_n c_29 hres
                refine lv_iconst (v := (0 : Int32)) hx hb dX8_canBe_189 (by decide) ?_
                obtain rfl := Option.some.inj hres
                exact ret_I (r := (0 : Int32)) C0 rfl hP hD hS dX8_canBe_190
              · replace hres := mi_p c_29 hres
                refine lv_iconst (v := (1 : Int32)) hx hb dX8_canBe_185 (by decide) ?_
                refine lv_goto (tgt := 190) hx hb dX8_canBe_186 (by decide) ?_
                obtain rfl := Option.some.inj hres
                exact ret_I (r := (1 : Int32)) C0 rfl hP hD hS dX8_canBe_190
          · replace hres := mi_n c_25 hres
            by_cases c_30 : x1 = (9 : Int32)
            · replace hres := mi_p c_30 hres
              refine sw_tab (tgt := 191) hx hb dX8_canBe_1 (by decide) (by have h9 := c_30 <;> (rw [h9]; decide)) ?_
              refine lv_aload_n hx hb dX8_canBe_191 rfl (lv_at hl 0 rfl) ?_
              obtain ⟨u31, hu31, hres⟩ := mi_b hres
              refine call_I C0 (run_V C0 (rest := []) (kX8_isOpen l dC dI q cI cJ cZ zn zm zj zf zr zw zs zfr zto zk zt za zb zq zl zv zo zu zov ztu zsh zle zmo zc zlo zhi   u31 hu31 _) (cwV 0 hts gX8_canBe_X8_isOpen rfl rfl rfl (by decide +kernel) ⟨by decide, by decide⟩) hP hD (ci := 8) (q0 := 0) rfl rfl rfl hl.1 rfl (Nat.le_of_ble_eq_true rfl) dX8_canBe_192) hD hS (fun H locs hP hD hS => ?_)
              obtain ⟨g_32, hres⟩ := mi_g hres
              obtain rfl := Option.some.inj hres
              exact ret_I (r := u31) C0 (narrow_z (Decidable.not_not.mp g_32)) hP hD hS dX8_canBe_195
            · replace hres := mi_n c_30 hres
              refine sw_tab (tgt := 196) hx hb dX8_canBe_1 (by decide) (by
                have n_0 : ¬ Int32.toInt x1 = 0 := lv_neT (k := (0 : Int32)) (fun h9 => c_1 (h9)) (by decide)
                have n_1 : ¬ Int32.toInt x1 = 1 := lv_neT (k := (1 : Int32)) (fun h9 => c_6 (h9)) (by decide)
                have n_2 : ¬ Int32.toInt x1 = 2 := lv_neT (k := (2 : Int32)) (fun h9 => c_11 (Or.inl h9)) (by decide)
                have n_3 : ¬ Int32.toInt x1 = 3 := lv_neT (k := (3 : Int32)) (fun h9 => c_11 (Or.inr (Or.inl h9))) (by decide)
                have n_4 : ¬ Int32.toInt x1 = 4 := lv_neT (k := (4 : Int32)) (fun h9 => c_11 (Or.inr (Or.inr (Or.inl h9)))) (by decide)
                have n_6 : ¬ Int32.toInt x1 = 6 := lv_neT (k := (6 : Int32)) (fun h9 => c_11 (Or.inr (Or.inr (Or.inr (Or.inl h9))))) (by decide)
                have n_7 : ¬ Int32.toInt x1 = 7 := lv_neT (k := (7 : Int32)) (fun h9 => c_11 (Or.inr (Or.inr (Or.inr (Or.inr (h9)))))) (by decide)
                have n_5 : ¬ Int32.toInt x1 = 5 := lv_neT (k := (5 : Int32)) (fun h9 => c_18 (h9)) (by decide)
                have n_8 : ¬ Int32.toInt x1 = 8 := lv_neT (k := (8 : Int32)) (fun h9 => c_25 (h9)) (by decide)
                have n_9 : ¬ Int32.toInt x1 = 9 := lv_neT (k := (9 : Int32)) (fun h9 => c_30 (h9)) (by decide)
                unfold swt
                split
                · decide
                · exfalso; omega) ?_
              refine lv_iconst (v := (0 : Int32)) hx hb dX8_canBe_196 (by decide) ?_
              obtain rfl := Option.some.inj hres
              exact ret_I (r := (0 : Int32)) C0 rfl hP hD hS dX8_canBe_197
/-! ### SumsOverModel.step(IIII)I -/
set_option maxRecDepth 20000 in
theorem hwX8_step_RX8 : ∀ w ∈ u_ws RX8 TX8 26, w ∈ wsX8_step := by decide +kernel
theorem mwX8_step_0 : (.fieldLink RX8 75 "SumsOverModel" "steps" "I" : Cond) ∈ wsX8_step := by decide +kernel
theorem mwX8_step_1 : (.fieldLink RX8 23 "SumsOverModel" "kind" "[I" : Cond) ∈ wsX8_step := by decide +kernel
theorem mwX8_step_2 : (.fieldLink RX8 26 "SumsOverModel" "target" "[I" : Cond) ∈ wsX8_step := by decide +kernel
theorem mwX8_step_3 : (.fieldLink RX8 29 "SumsOverModel" "a" "[I" : Cond) ∈ wsX8_step := by decide +kernel
theorem mwX8_step_4 : (.fieldLink RX8 32 "SumsOverModel" "b" "[I" : Cond) ∈ wsX8_step := by decide +kernel
theorem mwX8_step_5 : (.fieldLink RX8 35 "SumsOverModel" "isMeant" "[Z" : Cond) ∈ wsX8_step := by decide +kernel
def rmX8_step : Room := { frames := 3, cells := 0, slots := 0, locals := 69 }
set_option maxHeartbeats 4000000 in
set_option maxRecDepth 100000 in
theorem kX8_step (l : Launch) (dC : Nat → ClassId) (dI : Nat → Nat → Nat) (q : Nat → Nat) (cI cJ cZ : ClassId) (zn : Int32) (zm : Int32) (zj : Int32) (zf : Int32) (zr : Int32) (zw : Nat → Int32) (zs : Nat → Int32) (zfr : Nat → Int32) (zto : Nat → Int32) (zk : Nat → Int32) (zt : Nat → Int32) (za : Nat → Int32) (zb : Nat → Int32) (zq : Nat → Int32) (zl : Nat → Int32) (zv : Nat → Int64) (zo : Nat → Int32) (zu : Nat → Int32) (zov : Nat → Int32) (ztu : Nat → Int32) (zsh : Nat → Int32) (zle : Nat → Int64) (zmo : Nat → Int64) (zc : Nat → Int32) (zlo : Nat → Int64) (zhi : Nat → Int64) (x1 : Int32) (x2 : Int32) (x3 : Int32) (x4 : Int32) (RES : Int32 × (Int32) × (Nat → Int32) × (Nat → Int32) × (Nat → Int32) × (Nat → Int32) × (Nat → Int32)) (hres : mX8_step zn zk zt za zb zq x1 x2 x3 x4 = some RES) : CtI l yX8_step wsX8_step rmX8_step (dC, dI) (ty3 cI cJ cZ) (wM q cI cJ cZ zn zm zj zf zr zw zs zfr zto zk zt za zb zq zl zv zo zu zov ztu zsh zle zmo zc zlo zhi) [.ref (q 0), .int x1, .int x2, .int x3, .int x4] RES.1 (wM q cI cJ cZ RES.2.1 zm zj zf zr zw zs zfr zto RES.2.2.1 RES.2.2.2.1 RES.2.2.2.2.1 RES.2.2.2.2.2.1 RES.2.2.2.2.2.2 zl zv zo zu zov ztu zsh zle zmo zc zlo zhi) := by
  intro sz
  refine ct_entry (cc := cX8_step) (maxL := 5) (ret := some .int) (own := RX8) (by decide) rfl rfl (Nat.le_of_ble_eq_true rfl) (ll := [(0, .ref (q 0)), (1, .int x1), (2, .int x2), (3, .int x3), (4, .int x4)]) rfl ?_
  intro p e s m args below meth c hsz C0 _ hP hD ls hl
  have C1 := C0
  obtain ⟨hx, hb, hr, hml, hown, hts, hlocks, hN, hK, hA⟩ := C1
  have hS : va_S (va_A (wM q cI cJ cZ zn zm zj zf zr zw zs zfr zto zk zt za zb zq zl zv zo zu zov ztu zsh zle zmo zc zlo zhi) sz) s.heap s.heap [] := va_S.rf
  generalize va_A (wM q cI cJ cZ zn zm zj zf zr zw zs zfr zto zk zt za zb zq zl zv zo zu zov ztu zsh zle zmo zc zlo zhi) sz = A at C0 hD hA hS ⊢
  show W p l e rmX8_step s m args below meth c s.heap [] 0 0 (QI below args s A (dC, dI) (ty3 cI cJ cZ) RES.1 (wM q cI cJ cZ RES.2.1 zm zj zf zr zw zs zfr zto RES.2.2.1 RES.2.2.2.1 RES.2.2.2.2.1 RES.2.2.2.2.2.1 RES.2.2.2.2.2.2 zl zv zo zu zov ztu zsh zle zmo zc zlo zhi)) (F0 m 0 ls [])
  unfold mX8_step at hres
  refine lv_aload_n hx hb dX8_step_0 rfl (lv_at hl 0 rfl) ?_
  refine lv_iload_n hx hb dX8_step_1 rfl (lv_at hl 1 rfl) ?_
  refine lv_iload_n hx hb dX8_step_2 rfl (lv_at hl 2 rfl) ?_
  refine lv_iload_n hx hb dX8_step_3 rfl (lv_at hl 3 rfl) ?_
  refine lv_iload hx hb dX8_step_4 (lv_at hl 4 rfl) ?_
  obtain ⟨u1, hu1, hres⟩ := mi_b hres
  refine call_I C0 (run_V C0 (rest := []) (kX8_canBe l dC dI q cI cJ cZ zn zm zj zf zr zw zs zfr zto zk zt za zb zq zl zv zo zu zov ztu zsh zle zmo zc zlo zhi  x1 x2 x3 x4 u1 hu1 _) (cwV 4 hts gX8_step_X8_canBe rfl rfl rfl (by decide +kernel) ⟨by decide, by decide⟩) hP hD (ci := 8) (q0 := 0) rfl rfl rfl hl.1 rfl (Nat.le_of_ble_eq_true rfl) dX8_step_6) hD hS (fun H locs hP hD hS => ?_)
  refine lv_if_eq (tgt := 21) hx hb dX8_step_9 (by decide) (fun c_2 => ?_) (fun c_2 => ?_)
  · replace hres := mi_p c_2 hres
    refine lv_iconst (v := (-1 : Int32)) hx hb dX8_step_21 (by decide) ?_
    obtain rfl := Option.some.inj hres
    exact ret_I (r := (-1 : Int32)) C0 rfl hP hD hS dX8_step_22
  · replace hres := mi_n c_2 hres
    refine lv_aload_n hx hb dX8_step_12 rfl (lv_at hl 0 rfl) ?_
    refine va_get (D := (dC, dI)) (ci := 8) (v := .int zn) (C := RX8) (T := TX8) (N := 26) hx hb hts hwX8_step_RX8 hown hK hP 0 rfl rfl 9 (by decide) (hts _ mwX8_step_0) (fun _ h9 => h9) rfl dX8_step_13 ?_
    refine lv_bipush (v := (24 : Int32)) hx hb dX8_step_16 (by decide) ?_
    refine lv_icmp_ne (tgt := 23) hx hb dX8_step_18 (by decide) (fun c_3 => ?_) (fun c_3 => ?_)
    · replace hres := mi_n c_3 hres
      refine lv_aload_n hx hb dX8_step_23 rfl (lv_at hl 0 rfl) ?_
      refine va_get (D := (dC, dI)) (ci := 8) (v := .ref (q 5)) (C := RX8) (T := TX8) (N := 26) hx hb hts hwX8_step_RX8 hown hK hP 0 rfl rfl 4 (by decide) (hts _ mwX8_step_1) (fun _ h9 => h9) rfl dX8_step_24 ?_
      refine lv_aload_n hx hb dX8_step_27 rfl (lv_at hl 0 rfl) ?_
      refine va_get (D := (dC, dI)) (ci := 8) (v := .int zn) (C := RX8) (T := TX8) (N := 26) hx hb hts hwX8_step_RX8 hown hK hP 0 rfl rfl 9 (by decide) (hts _ mwX8_step_0) (fun _ h9 => h9) rfl dX8_step_28 ?_
      refine lv_iload_n hx hb dX8_step_31 rfl (lv_at hl 1 rfl) ?_
      obtain ⟨g_4, hres⟩ := mi_g hres
      refine va_iast (D := (dC, dI)) (cl := vwCl) hx hb hK hP hD hS 5 0 rfl rfl g_4 dX8_step_32 (fun H locs hP hD hS => ?_)
      have hP : va_P (dC, dI) vwCl (wM q cI cJ cZ zn zm zj zf zr zw zs zfr zto (upd zk (Int32.toNatClampNeg zn) x1) zt za zb zq zl zv zo zu zov ztu zsh zle zmo zc zlo zhi) H := hP
      have hD : va_D A (wM q cI cJ cZ zn zm zj zf zr zw zs zfr zto (upd zk (Int32.toNatClampNeg zn) x1) zt za zb zq zl zv zo zu zov ztu zsh zle zmo zc zlo zhi) := hD
      refine lv_aload_n hx hb dX8_step_33 rfl (lv_at hl 0 rfl) ?_
      refine va_get (D := (dC, dI)) (ci := 8) (v := .ref (q 6)) (C := RX8) (T := TX8) (N := 26) hx hb hts hwX8_step_RX8 hown hK hP 0 rfl rfl 5 (by decide) (hts _ mwX8_step_2) (fun _ h9 => h9) rfl dX8_step_34 ?_
      refine lv_aload_n hx hb dX8_step_37 rfl (lv_at hl 0 rfl) ?_
      refine va_get (D := (dC, dI)) (ci := 8) (v := .int zn) (C := RX8) (T := TX8) (N := 26) hx hb hts hwX8_step_RX8 hown hK hP 0 rfl rfl 9 (by decide) (hts _ mwX8_step_0) (fun _ h9 => h9) rfl dX8_step_38 ?_
      refine lv_iload_n hx hb dX8_step_41 rfl (lv_at hl 2 rfl) ?_
      refine va_iast (D := (dC, dI)) (cl := vwCl) hx hb hK hP hD hS 6 0 rfl rfl g_4 dX8_step_42 (fun H locs hP hD hS => ?_)
      have hP : va_P (dC, dI) vwCl (wM q cI cJ cZ zn zm zj zf zr zw zs zfr zto (upd zk (Int32.toNatClampNeg zn) x1) (upd zt (Int32.toNatClampNeg zn) x2) za zb zq zl zv zo zu zov ztu zsh zle zmo zc zlo zhi) H := hP
      have hD : va_D A (wM q cI cJ cZ zn zm zj zf zr zw zs zfr zto (upd zk (Int32.toNatClampNeg zn) x1) (upd zt (Int32.toNatClampNeg zn) x2) za zb zq zl zv zo zu zov ztu zsh zle zmo zc zlo zhi) := hD
      refine lv_aload_n hx hb dX8_step_43 rfl (lv_at hl 0 rfl) ?_
      refine va_get (D := (dC, dI)) (ci := 8) (v := .ref (q 7)) (C := RX8) (T := TX8) (N := 26) hx hb hts hwX8_step_RX8 hown hK hP 0 rfl rfl 6 (by decide) (hts _ mwX8_step_3) (fun _ h9 => h9) rfl dX8_step_44 ?_
      refine lv_aload_n hx hb dX8_step_47 rfl (lv_at hl 0 rfl) ?_
      refine va_get (D := (dC, dI)) (ci := 8) (v := .int zn) (C := RX8) (T := TX8) (N := 26) hx hb hts hwX8_step_RX8 hown hK hP 0 rfl rfl 9 (by decide) (hts _ mwX8_step_0) (fun _ h9 => h9) rfl dX8_step_48 ?_
      refine lv_iload_n hx hb dX8_step_51 rfl (lv_at hl 3 rfl) ?_
      refine va_iast (D := (dC, dI)) (cl := vwCl) hx hb hK hP hD hS 7 0 rfl rfl g_4 dX8_step_52 (fun H locs hP hD hS => ?_)
      have hP : va_P (dC, dI) vwCl (wM q cI cJ cZ zn zm zj zf zr zw zs zfr zto (upd zk (Int32.toNatClampNeg zn) x1) (upd zt (Int32.toNatClampNeg zn) x2) (upd za (Int32.toNatClampNeg zn) x3) zb zq zl zv zo zu zov ztu zsh zle zmo zc zlo zhi) H := hP
      have hD : va_D A (wM q cI cJ cZ zn zm zj zf zr zw zs zfr zto (upd zk (Int32.toNatClampNeg zn) x1) (upd zt (Int32.toNatClampNeg zn) x2) (upd za (Int32.toNatClampNeg zn) x3) zb zq zl zv zo zu zov ztu zsh zle zmo zc zlo zhi) := hD
      refine lv_aload_n hx hb dX8_step_53 rfl (lv_at hl 0 rfl) ?_
      refine va_get (D := (dC, dI)) (ci := 8) (v := .ref (q 8)) (C := RX8) (T := TX8) (N := 26) hx hb hts hwX8_step_RX8 hown hK hP 0 rfl rfl 7 (by decide) (hts _ mwX8_step_4) (fun _ h9 => h9) rfl dX8_step_54 ?_
      refine lv_aload_n hx hb dX8_step_57 rfl (lv_at hl 0 rfl) ?_
      refine va_get (D := (dC, dI)) (ci := 8) (v := .int zn) (C := RX8) (T := TX8) (N := 26) hx hb hts hwX8_step_RX8 hown hK hP 0 rfl rfl 9 (by decide) (hts _ mwX8_step_0) (fun _ h9 => h9) rfl dX8_step_58 ?_
      refine lv_iload hx hb dX8_step_61 (lv_at hl 4 rfl) ?_
      refine va_iast (D := (dC, dI)) (cl := vwCl) hx hb hK hP hD hS 8 0 rfl rfl g_4 dX8_step_63 (fun H locs hP hD hS => ?_)
      have hP : va_P (dC, dI) vwCl (wM q cI cJ cZ zn zm zj zf zr zw zs zfr zto (upd zk (Int32.toNatClampNeg zn) x1) (upd zt (Int32.toNatClampNeg zn) x2) (upd za (Int32.toNatClampNeg zn) x3) (upd zb (Int32.toNatClampNeg zn) x4) zq zl zv zo zu zov ztu zsh zle zmo zc zlo zhi) H := hP
      have hD : va_D A (wM q cI cJ cZ zn zm zj zf zr zw zs zfr zto (upd zk (Int32.toNatClampNeg zn) x1) (upd zt (Int32.toNatClampNeg zn) x2) (upd za (Int32.toNatClampNeg zn) x3) (upd zb (Int32.toNatClampNeg zn) x4) zq zl zv zo zu zov ztu zsh zle zmo zc zlo zhi) := hD
      refine lv_aload_n hx hb dX8_step_64 rfl (lv_at hl 0 rfl) ?_
      refine va_get (D := (dC, dI)) (ci := 8) (v := .ref (q 9)) (C := RX8) (T := TX8) (N := 26) hx hb hts hwX8_step_RX8 hown hK hP 0 rfl rfl 8 (by decide) (hts _ mwX8_step_5) (fun _ h9 => h9) rfl dX8_step_65 ?_
      refine lv_aload_n hx hb dX8_step_68 rfl (lv_at hl 0 rfl) ?_
      refine va_get (D := (dC, dI)) (ci := 8) (v := .int zn) (C := RX8) (T := TX8) (N := 26) hx hb hts hwX8_step_RX8 hown hK hP 0 rfl rfl 9 (by decide) (hts _ mwX8_step_0) (fun _ h9 => h9) rfl dX8_step_69 ?_
      refine lv_iconst (v := (0 : Int32)) hx hb dX8_step_72 (by decide) ?_
      refine va_zast (D := (dC, dI)) (cl := vwCl) hx hb hK hP hD hS 9 2 rfl rfl g_4 dX8_step_73 (fun H locs hP hD hS => ?_)
      have hP : va_P (dC, dI) vwCl (wM q cI cJ cZ zn zm zj zf zr zw zs zfr zto (upd zk (Int32.toNatClampNeg zn) x1) (upd zt (Int32.toNatClampNeg zn) x2) (upd za (Int32.toNatClampNeg zn) x3) (upd zb (Int32.toNatClampNeg zn) x4) (upd zq (Int32.toNatClampNeg zn) (vp_nar .boolean (0 : Int32))) zl zv zo zu zov ztu zsh zle zmo zc zlo zhi) H := hP
      have hD : va_D A (wM q cI cJ cZ zn zm zj zf zr zw zs zfr zto (upd zk (Int32.toNatClampNeg zn) x1) (upd zt (Int32.toNatClampNeg zn) x2) (upd za (Int32.toNatClampNeg zn) x3) (upd zb (Int32.toNatClampNeg zn) x4) (upd zq (Int32.toNatClampNeg zn) (vp_nar .boolean (0 : Int32))) zl zv zo zu zov ztu zsh zle zmo zc zlo zhi) := hD
      refine lv_aload_n hx hb dX8_step_74 rfl (lv_at hl 0 rfl) ?_
      refine lv_dup hx hb dX8_step_75 rfl ?_
      refine va_get (D := (dC, dI)) (ci := 8) (v := .int zn) (C := RX8) (T := TX8) (N := 26) hx hb hts hwX8_step_RX8 hown hK hP 0 rfl rfl 9 (by decide) (hts _ mwX8_step_0) (fun _ h9 => h9) rfl dX8_step_76 ?_
      refine lv_iconst (v := (1 : Int32)) hx hb dX8_step_79 (by decide) ?_
      refine lv_iadd hx hb dX8_step_80 ?_
      refine va_put (D := (dC, dI)) (ci := 8) (v := .int (zn + (1 : Int32))) (ty := .int) (C := RX8) (T := TX8) (N := 26) hx hb hts hwX8_step_RX8 tyX8 tyX8_ok nmX8 hown hK hP hD hS 0 rfl rfl 9 (by decide) (hts _ mwX8_step_0) (fun _ h9 => h9) rfl (by decide +kernel) rfl rfl (Nat.le_of_ble_eq_true rfl) dX8_step_81 (fun H locs hP hD hS => ?_)
      have hP : va_P (dC, dI) vwCl (wM q cI cJ cZ (zn + (1 : Int32)) zm zj zf zr zw zs zfr zto (upd zk (Int32.toNatClampNeg zn) x1) (upd zt (Int32.toNatClampNeg zn) x2) (upd za (Int32.toNatClampNeg zn) x3) (upd zb (Int32.toNatClampNeg zn) x4) (upd zq (Int32.toNatClampNeg zn) (vp_nar .boolean (0 : Int32))) zl zv zo zu zov ztu zsh zle zmo zc zlo zhi) H := hP
      have hD : va_D A (wM q cI cJ cZ (zn + (1 : Int32)) zm zj zf zr zw zs zfr zto (upd zk (Int32.toNatClampNeg zn) x1) (upd zt (Int32.toNatClampNeg zn) x2) (upd za (Int32.toNatClampNeg zn) x3) (upd zb (Int32.toNatClampNeg zn) x4) (upd zq (Int32.toNatClampNeg zn) (vp_nar .boolean (0 : Int32))) zl zv zo zu zov ztu zsh zle zmo zc zlo zhi) := hD
      refine lv_aload_n hx hb dX8_step_84 rfl (lv_at hl 0 rfl) ?_
      refine va_get (D := (dC, dI)) (ci := 8) (v := .int (zn + (1 : Int32))) (C := RX8) (T := TX8) (N := 26) hx hb hts hwX8_step_RX8 hown hK hP 0 rfl rfl 9 (by decide) (hts _ mwX8_step_0) (fun _ h9 => h9) rfl dX8_step_85 ?_
      refine lv_iconst (v := (1 : Int32)) hx hb dX8_step_88 (by decide) ?_
      refine lv_isub hx hb dX8_step_89 ?_
      obtain rfl := Option.some.inj hres
      exact ret_I (r := ((zn + (1 : Int32)) - (1 : Int32))) C0 rfl hP hD hS dX8_step_90
    · replace hres := mi_p c_3 hres
      refine lv_iconst (v := (-1 : Int32)) hx hb dX8_step_21 (by decide) ?_
      obtain rfl := Option.some.inj hres
      exact ret_I (r := (-1 : Int32)) C0 rfl hP hD hS dX8_step_22
/-! ### SumsOverModel.back()Z -/
set_option maxRecDepth 20000 in
theorem hwX8_back_RX8 : ∀ w ∈ u_ws RX8 TX8 26, w ∈ wsX8_back := by decide +kernel
theorem mwX8_back_0 : (.fieldLink RX8 75 "SumsOverModel" "steps" "I" : Cond) ∈ wsX8_back := by decide +kernel
def rmX8_back : Room := { frames := 0, cells := 0, slots := 0, locals := 0 }
set_option maxHeartbeats 4000000 in
set_option maxRecDepth 100000 in
theorem kX8_back (l : Launch) (dC : Nat → ClassId) (dI : Nat → Nat → Nat) (q : Nat → Nat) (cI cJ cZ : ClassId) (zn : Int32) (zm : Int32) (zj : Int32) (zf : Int32) (zr : Int32) (zw : Nat → Int32) (zs : Nat → Int32) (zfr : Nat → Int32) (zto : Nat → Int32) (zk : Nat → Int32) (zt : Nat → Int32) (za : Nat → Int32) (zb : Nat → Int32) (zq : Nat → Int32) (zl : Nat → Int32) (zv : Nat → Int64) (zo : Nat → Int32) (zu : Nat → Int32) (zov : Nat → Int32) (ztu : Nat → Int32) (zsh : Nat → Int32) (zle : Nat → Int64) (zmo : Nat → Int64) (zc : Nat → Int32) (zlo : Nat → Int64) (zhi : Nat → Int64)  (RES : Int32 × (Int32)) (hres : mX8_back zn = some RES) : CtI l yX8_back wsX8_back rmX8_back (dC, dI) (ty3 cI cJ cZ) (wM q cI cJ cZ zn zm zj zf zr zw zs zfr zto zk zt za zb zq zl zv zo zu zov ztu zsh zle zmo zc zlo zhi) [.ref (q 0)] RES.1 (wM q cI cJ cZ RES.2 zm zj zf zr zw zs zfr zto zk zt za zb zq zl zv zo zu zov ztu zsh zle zmo zc zlo zhi) := by
  intro sz
  refine ct_entry (cc := cX8_back) (maxL := 1) (ret := some .boolean) (own := RX8) (by decide) rfl rfl (Nat.le_of_ble_eq_true rfl) (ll := [(0, .ref (q 0))]) rfl ?_
  intro p e s m args below meth c hsz C0 _ hP hD ls hl
  have C1 := C0
  obtain ⟨hx, hb, hr, hml, hown, hts, hlocks, hN, hK, hA⟩ := C1
  have hS : va_S (va_A (wM q cI cJ cZ zn zm zj zf zr zw zs zfr zto zk zt za zb zq zl zv zo zu zov ztu zsh zle zmo zc zlo zhi) sz) s.heap s.heap [] := va_S.rf
  generalize va_A (wM q cI cJ cZ zn zm zj zf zr zw zs zfr zto zk zt za zb zq zl zv zo zu zov ztu zsh zle zmo zc zlo zhi) sz = A at C0 hD hA hS ⊢
  show W p l e rmX8_back s m args below meth c s.heap [] 0 0 (QI below args s A (dC, dI) (ty3 cI cJ cZ) RES.1 (wM q cI cJ cZ RES.2 zm zj zf zr zw zs zfr zto zk zt za zb zq zl zv zo zu zov ztu zsh zle zmo zc zlo zhi)) (F0 m 0 ls [])
  unfold mX8_back at hres
  refine lv_aload_n hx hb dX8_back_0 rfl (lv_at hl 0 rfl) ?_
  refine va_get (D := (dC, dI)) (ci := 8) (v := .int zn) (C := RX8) (T := TX8) (N := 26) hx hb hts hwX8_back_RX8 hown hK hP 0 rfl rfl 9 (by decide) (hts _ mwX8_back_0) (fun _ h9 => h9) rfl dX8_back_1 ?_
  refine lv_if_ne (tgt := 9) hx hb dX8_back_4 (by decide) (fun c_1 => ?_) (fun c_1 => ?_)
  · replace hres := mi_n c_1 hres
    refine lv_aload_n hx hb dX8_back_9 rfl (lv_at hl 0 rfl) ?_
    refine lv_dup hx hb dX8_back_10 rfl ?_
    refine va_get (D := (dC, dI)) (ci := 8) (v := .int zn) (C := RX8) (T := TX8) (N := 26) hx hb hts hwX8_back_RX8 hown hK hP 0 rfl rfl 9 (by decide) (hts _ mwX8_back_0) (fun _ h9 => h9) rfl dX8_back_11 ?_
    refine lv_iconst (v := (1 : Int32)) hx hb dX8_back_14 (by decide) ?_
    refine lv_isub hx hb dX8_back_15 ?_
    refine va_put (D := (dC, dI)) (ci := 8) (v := .int (zn - (1 : Int32))) (ty := .int) (C := RX8) (T := TX8) (N := 26) hx hb hts hwX8_back_RX8 tyX8 tyX8_ok nmX8 hown hK hP hD hS 0 rfl rfl 9 (by decide) (hts _ mwX8_back_0) (fun _ h9 => h9) rfl (by decide +kernel) rfl rfl (Nat.le_of_ble_eq_true rfl) dX8_back_16 (fun H locs hP hD hS => ?_)
    have hP : va_P (dC, dI) vwCl (wM q cI cJ cZ (zn - (1 : Int32)) zm zj zf zr zw zs zfr zto zk zt za zb zq zl zv zo zu zov ztu zsh zle zmo zc zlo zhi) H := hP
    have hD : va_D A (wM q cI cJ cZ (zn - (1 : Int32)) zm zj zf zr zw zs zfr zto zk zt za zb zq zl zv zo zu zov ztu zsh zle zmo zc zlo zhi) := hD
    refine lv_iconst (v := (1 : Int32)) hx hb dX8_back_19 (by decide) ?_
    obtain rfl := Option.some.inj hres
    exact ret_I (r := (1 : Int32)) C0 rfl hP hD hS dX8_back_20
  · replace hres := mi_p c_1 hres
    refine lv_iconst (v := (0 : Int32)) hx hb dX8_back_7 (by decide) ?_
    obtain rfl := Option.some.inj hres
    exact ret_I (r := (0 : Int32)) C0 rfl hP hD hS dX8_back_8
/-! ### SumsOverModel.mode(I)Z -/
set_option maxRecDepth 20000 in
theorem hwX8_mode_RX8 : ∀ w ∈ u_ws RX8 TX8 26, w ∈ wsX8_mode := by decide +kernel
theorem mwX8_mode_0 : (.fieldLink RX8 107 "SumsOverModel" "mode" "I" : Cond) ∈ wsX8_mode := by decide +kernel
def rmX8_mode : Room := { frames := 1, cells := 0, slots := 0, locals := 25 }
set_option maxHeartbeats 4000000 in
set_option maxRecDepth 100000 in
theorem kX8_mode (l : Launch) (dC : Nat → ClassId) (dI : Nat → Nat → Nat) (q : Nat → Nat) (cI cJ cZ : ClassId) (zn : Int32) (zm : Int32) (zj : Int32) (zf : Int32) (zr : Int32) (zw : Nat → Int32) (zs : Nat → Int32) (zfr : Nat → Int32) (zto : Nat → Int32) (zk : Nat → Int32) (zt : Nat → Int32) (za : Nat → Int32) (zb : Nat → Int32) (zq : Nat → Int32) (zl : Nat → Int32) (zv : Nat → Int64) (zo : Nat → Int32) (zu : Nat → Int32) (zov : Nat → Int32) (ztu : Nat → Int32) (zsh : Nat → Int32) (zle : Nat → Int64) (zmo : Nat → Int64) (zc : Nat → Int32) (zlo : Nat → Int64) (zhi : Nat → Int64) (x1 : Int32) (RES : Int32 × (Int32)) (hres : mX8_mode zm x1 = some RES) : CtI l yX8_mode wsX8_mode rmX8_mode (dC, dI) (ty3 cI cJ cZ) (wM q cI cJ cZ zn zm zj zf zr zw zs zfr zto zk zt za zb zq zl zv zo zu zov ztu zsh zle zmo zc zlo zhi) [.ref (q 0), .int x1] RES.1 (wM q cI cJ cZ zn RES.2 zj zf zr zw zs zfr zto zk zt za zb zq zl zv zo zu zov ztu zsh zle zmo zc zlo zhi) := by
  intro sz
  refine ct_entry (cc := cX8_mode) (maxL := 2) (ret := some .boolean) (own := RX8) (by decide) rfl rfl (Nat.le_of_ble_eq_true rfl) (ll := [(0, .ref (q 0)), (1, .int x1)]) rfl ?_
  intro p e s m args below meth c hsz C0 _ hP hD ls hl
  have C1 := C0
  obtain ⟨hx, hb, hr, hml, hown, hts, hlocks, hN, hK, hA⟩ := C1
  have hS : va_S (va_A (wM q cI cJ cZ zn zm zj zf zr zw zs zfr zto zk zt za zb zq zl zv zo zu zov ztu zsh zle zmo zc zlo zhi) sz) s.heap s.heap [] := va_S.rf
  generalize va_A (wM q cI cJ cZ zn zm zj zf zr zw zs zfr zto zk zt za zb zq zl zv zo zu zov ztu zsh zle zmo zc zlo zhi) sz = A at C0 hD hA hS ⊢
  show W p l e rmX8_mode s m args below meth c s.heap [] 0 0 (QI below args s A (dC, dI) (ty3 cI cJ cZ) RES.1 (wM q cI cJ cZ zn RES.2 zj zf zr zw zs zfr zto zk zt za zb zq zl zv zo zu zov ztu zsh zle zmo zc zlo zhi)) (F0 m 0 ls [])
  unfold mX8_mode at hres
  refine lv_iload_n hx hb dX8_mode_0 rfl (lv_at hl 1 rfl) ?_
  refine lv_i2l (v := (x1).toInt64) hx hb dX8_mode_1 rfl ?_
  refine lv_lconst (v := (0 : Int64)) hx hb dX8_mode_2 (by decide) ?_
  refine lv_lconst (v := (1 : Int64)) hx hb dX8_mode_3 (by decide) ?_
  obtain ⟨u1, hu1, hres⟩ := mi_b hres
  refine call_I C0 (run_S C0 (rest := []) (kX8_in l (dC, dI) (ty3 cI cJ cZ) (wM q cI cJ cZ zn zm zj zf zr zw zs zfr zto zk zt za zb zq zl zv zo zu zov ztu zsh zle zmo zc zlo zhi) ((x1).toInt64) (0 : Int64) (1 : Int64) u1 hu1 _) (va_cwS 3 hts gX8_mode_X8_in rfl rfl rfl (by decide +kernel) ⟨by decide, by decide⟩) hP hD rfl hl.1 rfl (Nat.le_of_ble_eq_true rfl) dX8_mode_4) hD hS (fun H locs hP hD hS => ?_)
  refine lv_if_ne (tgt := 12) hx hb dX8_mode_7 (by decide) (fun c_2 => ?_) (fun c_2 => ?_)
  · replace hres := mi_n c_2 hres
    refine lv_aload_n hx hb dX8_mode_12 rfl (lv_at hl 0 rfl) ?_
    refine lv_iload_n hx hb dX8_mode_13 rfl (lv_at hl 1 rfl) ?_
    refine va_put (D := (dC, dI)) (ci := 8) (v := .int x1) (ty := .int) (C := RX8) (T := TX8) (N := 26) hx hb hts hwX8_mode_RX8 tyX8 tyX8_ok nmX8 hown hK hP hD hS 0 rfl rfl 10 (by decide) (hts _ mwX8_mode_0) (fun _ h9 => h9) rfl (by decide +kernel) rfl rfl (Nat.le_of_ble_eq_true rfl) dX8_mode_14 (fun H locs hP hD hS => ?_)
    have hP : va_P (dC, dI) vwCl (wM q cI cJ cZ zn x1 zj zf zr zw zs zfr zto zk zt za zb zq zl zv zo zu zov ztu zsh zle zmo zc zlo zhi) H := hP
    have hD : va_D A (wM q cI cJ cZ zn x1 zj zf zr zw zs zfr zto zk zt za zb zq zl zv zo zu zov ztu zsh zle zmo zc zlo zhi) := hD
    refine lv_iconst (v := (1 : Int32)) hx hb dX8_mode_17 (by decide) ?_
    obtain rfl := Option.some.inj hres
    exact ret_I (r := (1 : Int32)) C0 rfl hP hD hS dX8_mode_18
  · replace hres := mi_p c_2 hres
    refine lv_iconst (v := (0 : Int32)) hx hb dX8_mode_10 (by decide) ?_
    obtain rfl := Option.some.inj hres
    exact ret_I (r := (0 : Int32)) C0 rfl hP hD hS dX8_mode_11
/-! ### SumsOverModel.lays()V -/
set_option maxRecDepth 20000 in
theorem hwX8_lays_RX8 : ∀ w ∈ u_ws RX8 TX8 26, w ∈ wsX8_lays := by decide +kernel
theorem mwX8_lays_0 : (.fieldLink RX8 110 "SumsOverModel" "lineMany" "I" : Cond) ∈ wsX8_lays := by decide +kernel
theorem mwX8_lays_1 : (.fieldLink RX8 75 "SumsOverModel" "steps" "I" : Cond) ∈ wsX8_lays := by decide +kernel
theorem mwX8_lays_2 : (.fieldLink RX8 23 "SumsOverModel" "kind" "[I" : Cond) ∈ wsX8_lays := by decide +kernel
theorem mwX8_lays_3 : (.fieldLink RX8 38 "SumsOverModel" "line" "[I" : Cond) ∈ wsX8_lays := by decide +kernel
theorem mwX8_lays_4 : (.fieldLink RX8 32 "SumsOverModel" "b" "[I" : Cond) ∈ wsX8_lays := by decide +kernel
def rmX8_lays : Room := { frames := 0, cells := 0, slots := 0, locals := 0 }
def iX8_lays_L106 (p : Program) (l : Launch) (e : Env) (s : State) (m : MethodId) (args : Array Value) (below : List Frame) (meth : Method) (c : Code) (A : Nat → Prop) (dC : Nat → ClassId) (dI : Nat → Nat → Nat) (q : Nat → Nat) (cI cJ cZ : ClassId) (zn : Int32) (zm : Int32) (zf : Int32) (zr : Int32) (zw : Nat → Int32) (zs : Nat → Int32) (zfr : Nat → Int32) (zto : Nat → Int32) (zk : Nat → Int32) (zt : Nat → Int32) (za : Nat → Int32) (zb : Nat → Int32) (zq : Nat → Int32) (zv : Nat → Int64) (zo : Nat → Int32) (zu : Nat → Int32) (zov : Nat → Int32) (ztu : Nat → Int32) (zsh : Nat → Int32) (zle : Nat → Int64) (zmo : Nat → Int64) (zc : Nat → Int32) (zlo : Nat → Int64) (zhi : Nat → Int64)  (RES : (Int32) × (Nat → Int32)) (k : (Int32) → (Nat → Int32) → (Int32) → (Int32) → (Int32) → (Int32) → Option ((Int32) × (Nat → Int32))) : Prop := ∀ (zj : Int32) (zl : Nat → Int32) (x1 : Int32) (x2 : Int32) (x3 : Int32) (x4 : Int32) (H : Heap) (locs : List Loc) (ls : Array Slot), va_P (dC, dI) vwCl (wM q cI cJ cZ zn zm zj zf zr zw zs zfr zto zk zt za zb zq zl zv zo zu zov ztu zsh zle zmo zc zlo zhi) H → va_D A (wM q cI cJ cZ zn zm zj zf zr zw zs zfr zto zk zt za zb zq zl zv zo zu zov ztu zsh zle zmo zc zlo zhi) → va_S A s.heap H locs → lv_has ls 5 [(0, .ref (q 0)), (1, .int x1), (2, .int x2), (3, .int x3), (4, .int x4)] → k zj zl x1 x2 x3 x4 = some RES → W p l e rmX8_lays s m args below meth c H locs 0 0 (QV below args s A (dC, dI) (ty3 cI cJ cZ) (wM q cI cJ cZ zn zm RES.1 zf zr zw zs zfr zto zk zt za zb zq RES.2 zv zo zu zov ztu zsh zle zmo zc zlo zhi)) (F0 m 106 ls [])
def iX8_lays_L91 (p : Program) (l : Launch) (e : Env) (s : State) (m : MethodId) (args : Array Value) (below : List Frame) (meth : Method) (c : Code) (A : Nat → Prop) (dC : Nat → ClassId) (dI : Nat → Nat → Nat) (q : Nat → Nat) (cI cJ cZ : ClassId) (zn : Int32) (zm : Int32) (zf : Int32) (zr : Int32) (zw : Nat → Int32) (zs : Nat → Int32) (zfr : Nat → Int32) (zto : Nat → Int32) (zk : Nat → Int32) (zt : Nat → Int32) (za : Nat → Int32) (zb : Nat → Int32) (zq : Nat → Int32) (zv : Nat → Int64) (zo : Nat → Int32) (zu : Nat → Int32) (zov : Nat → Int32) (ztu : Nat → Int32) (zsh : Nat → Int32) (zle : Nat → Int64) (zmo : Nat → Int64) (zc : Nat → Int32) (zlo : Nat → Int64) (zhi : Nat → Int64)  (RES : (Int32) × (Nat → Int32)) (k : (Int32) → (Nat → Int32) → (Int32) → (Int32) → (Int32) → Option ((Int32) × (Nat → Int32))) : Prop := ∀ (zj : Int32) (zl : Nat → Int32) (x1 : Int32) (x2 : Int32) (x3 : Int32) (H : Heap) (locs : List Loc) (ls : Array Slot), va_P (dC, dI) vwCl (wM q cI cJ cZ zn zm zj zf zr zw zs zfr zto zk zt za zb zq zl zv zo zu zov ztu zsh zle zmo zc zlo zhi) H → va_D A (wM q cI cJ cZ zn zm zj zf zr zw zs zfr zto zk zt za zb zq zl zv zo zu zov ztu zsh zle zmo zc zlo zhi) → va_S A s.heap H locs → lv_has ls 5 [(0, .ref (q 0)), (1, .int x1), (2, .int x2), (3, .int x3)] → k zj zl x1 x2 x3 = some RES → W p l e rmX8_lays s m args below meth c H locs 0 0 (QV below args s A (dC, dI) (ty3 cI cJ cZ) (wM q cI cJ cZ zn zm RES.1 zf zr zw zs zfr zto zk zt za zb zq RES.2 zv zo zu zov ztu zsh zle zmo zc zlo zhi)) (F0 m 91 ls [])
def iX8_lays_L64 (p : Program) (l : Launch) (e : Env) (s : State) (m : MethodId) (args : Array Value) (below : List Frame) (meth : Method) (c : Code) (A : Nat → Prop) (dC : Nat → ClassId) (dI : Nat → Nat → Nat) (q : Nat → Nat) (cI cJ cZ : ClassId) (zn : Int32) (zm : Int32) (zf : Int32) (zr : Int32) (zw : Nat → Int32) (zs : Nat → Int32) (zfr : Nat → Int32) (zto : Nat → Int32) (zk : Nat → Int32) (zt : Nat → Int32) (za : Nat → Int32) (zb : Nat → Int32) (zq : Nat → Int32) (zv : Nat → Int64) (zo : Nat → Int32) (zu : Nat → Int32) (zov : Nat → Int32) (ztu : Nat → Int32) (zsh : Nat → Int32) (zle : Nat → Int64) (zmo : Nat → Int64) (zc : Nat → Int32) (zlo : Nat → Int64) (zhi : Nat → Int64)  (RES : (Int32) × (Nat → Int32)) (k : (Int32) → (Nat → Int32) → (Int32) → (Int32) → Option ((Int32) × (Nat → Int32))) : Prop := ∀ (zj : Int32) (zl : Nat → Int32) (x1 : Int32) (x2 : Int32) (H : Heap) (locs : List Loc) (ls : Array Slot), va_P (dC, dI) vwCl (wM q cI cJ cZ zn zm zj zf zr zw zs zfr zto zk zt za zb zq zl zv zo zu zov ztu zsh zle zmo zc zlo zhi) H → va_D A (wM q cI cJ cZ zn zm zj zf zr zw zs zfr zto zk zt za zb zq zl zv zo zu zov ztu zsh zle zmo zc zlo zhi) → va_S A s.heap H locs → lv_has ls 5 [(0, .ref (q 0)), (1, .int x1), (2, .int x2)] → k zj zl x1 x2 = some RES → W p l e rmX8_lays s m args below meth c H locs 0 0 (QV below args s A (dC, dI) (ty3 cI cJ cZ) (wM q cI cJ cZ zn zm RES.1 zf zr zw zs zfr zto zk zt za zb zq RES.2 zv zo zu zov ztu zsh zle zmo zc zlo zhi)) (F0 m 64 ls [])
def iX8_lays_L7 (p : Program) (l : Launch) (e : Env) (s : State) (m : MethodId) (args : Array Value) (below : List Frame) (meth : Method) (c : Code) (A : Nat → Prop) (dC : Nat → ClassId) (dI : Nat → Nat → Nat) (q : Nat → Nat) (cI cJ cZ : ClassId) (zn : Int32) (zm : Int32) (zf : Int32) (zr : Int32) (zw : Nat → Int32) (zs : Nat → Int32) (zfr : Nat → Int32) (zto : Nat → Int32) (zk : Nat → Int32) (zt : Nat → Int32) (za : Nat → Int32) (zb : Nat → Int32) (zq : Nat → Int32) (zv : Nat → Int64) (zo : Nat → Int32) (zu : Nat → Int32) (zov : Nat → Int32) (ztu : Nat → Int32) (zsh : Nat → Int32) (zle : Nat → Int64) (zmo : Nat → Int64) (zc : Nat → Int32) (zlo : Nat → Int64) (zhi : Nat → Int64)  (RES : (Int32) × (Nat → Int32)) (k : (Int32) → (Nat → Int32) → (Int32) → Option ((Int32) × (Nat → Int32))) : Prop := ∀ (zj : Int32) (zl : Nat → Int32) (x1 : Int32) (H : Heap) (locs : List Loc) (ls : Array Slot), va_P (dC, dI) vwCl (wM q cI cJ cZ zn zm zj zf zr zw zs zfr zto zk zt za zb zq zl zv zo zu zov ztu zsh zle zmo zc zlo zhi) H → va_D A (wM q cI cJ cZ zn zm zj zf zr zw zs zfr zto zk zt za zb zq zl zv zo zu zov ztu zsh zle zmo zc zlo zhi) → va_S A s.heap H locs → lv_has ls 5 [(0, .ref (q 0)), (1, .int x1)] → k zj zl x1 = some RES → W p l e rmX8_lays s m args below meth c H locs 0 0 (QV below args s A (dC, dI) (ty3 cI cJ cZ) (wM q cI cJ cZ zn zm RES.1 zf zr zw zs zfr zto zk zt za zb zq RES.2 zv zo zu zov ztu zsh zle zmo zc zlo zhi)) (F0 m 7 ls [])
set_option maxHeartbeats 4000000 in
set_option maxRecDepth 100000 in
theorem zX8_lays_L106 {p : Program} {l : Launch} {e : Env} {s : State} {m : MethodId} {args : Array Value} {below : List Frame} {meth : Method} {c : Code} {A : Nat → Prop} {dC : Nat → ClassId} {dI : Nat → Nat → Nat} {q : Nat → Nat} {cI cJ cZ : ClassId} {zn : Int32} {zm : Int32} {zf : Int32} {zr : Int32} {zw : Nat → Int32} {zs : Nat → Int32} {zfr : Nat → Int32} {zto : Nat → Int32} {zk : Nat → Int32} {zt : Nat → Int32} {za : Nat → Int32} {zb : Nat → Int32} {zq : Nat → Int32} {zv : Nat → Int64} {zo : Nat → Int32} {zu : Nat → Int32} {zov : Nat → Int32} {ztu : Nat → Int32} {zsh : Nat → Int32} {zle : Nat → Int64} {zmo : Nat → Int64} {zc : Nat → Int32} {zlo : Nat → Int64} {zhi : Nat → Int64}  (C0 : Cx p s m args meth c cX8_lays 5 none RX8 wsX8_lays A (dC, dI) (ty3 cI cJ cZ)) {RES : (Int32) × (Nat → Int32)} {k7 : (Int32) → (Nat → Int32) → (Int32) → Option ((Int32) × (Nat → Int32))} (hk7 : iX8_lays_L7 p l e s m args below meth c A dC dI q cI cJ cZ zn zm zf zr zw zs zfr zto zk zt za zb zq zv zo zu zov ztu zsh zle zmo zc zlo zhi RES k7) {k91 : (Int32) → (Nat → Int32) → (Int32) → (Int32) → (Int32) → Option ((Int32) × (Nat → Int32))} (hk91 : iX8_lays_L91 p l e s m args below meth c A dC dI q cI cJ cZ zn zm zf zr zw zs zfr zto zk zt za zb zq zv zo zu zov ztu zsh zle zmo zc zlo zhi RES k91) : ∀ n : Nat, iX8_lays_L106 p l e s m args below meth c A dC dI q cI cJ cZ zn zm zf zr zw zs zfr zto zk zt za zb zq zv zo zu zov ztu zsh zle zmo zc zlo zhi RES (mX8_lays_L106 zn zk zb k7 k91 n) := by
  have C1 := C0
  obtain ⟨hx, hb, hr, hml, hown, hts, hlocks, hN, hK, hA⟩ := C1
  intro n
  induction n with
  | zero =>
    intro zj zl x1 x2 x3 x4 H locs ls hP hD hS hl hres
    exact mi_0 hres
  | succ n ih =>
    intro zj zl x1 x2 x3 x4 H locs ls hP hD hS hl hres
    rw [mX8_lays_L106] at hres
    refine lv_iload hx hb dX8_lays_106 (lv_at hl 4 rfl) ?_
    refine lv_iload_n hx hb dX8_lays_108 rfl (lv_at hl 2 rfl) ?_
    refine lv_icmp_ge (tgt := 136) hx hb dX8_lays_109 (by decide) (fun c_11 => ?_) (fun c_11 => ?_)
    · replace hres := mi_p c_11 hres
      refine lv_iinc (v := x3 + (1 : Int32)) (lv' := [(3, .int (x3 + (1 : Int32))), (0, .ref (q 0)), (1, .int x1), (2, .int x2), (4, .int x4)]) hx hb dX8_lays_136 hl (k := 3) rfl rfl (by decide) rfl (fun ls hl => ?_)
      refine lv_goto (tgt := 91) hx hb dX8_lays_139 (by decide) ?_
      exact hk91 zj zl x1 x2 (x3 + (1 : Int32)) _ _ ls hP hD hS (lv_sub hl [1, 2, 3, 0] rfl) hres
    · replace hres := mi_n c_11 hres
      refine lv_aload_n hx hb dX8_lays_112 rfl (lv_at hl 0 rfl) ?_
      refine va_get (D := (dC, dI)) (ci := 8) (v := .ref (q 10)) (C := RX8) (T := TX8) (N := 26) hx hb hts hwX8_lays_RX8 hown hK hP 0 rfl rfl 11 (by decide) (hts _ mwX8_lays_3) (fun _ h9 => h9) rfl dX8_lays_113 ?_
      refine lv_aload_n hx hb dX8_lays_116 rfl (lv_at hl 0 rfl) ?_
      refine lv_dup hx hb dX8_lays_117 rfl ?_
      refine va_get (D := (dC, dI)) (ci := 8) (v := .int zj) (C := RX8) (T := TX8) (N := 26) hx hb hts hwX8_lays_RX8 hown hK hP 0 rfl rfl 12 (by decide) (hts _ mwX8_lays_0) (fun _ h9 => h9) rfl dX8_lays_118 ?_
      refine lv_dup_x1 hx hb dX8_lays_121 rfl rfl ?_
      refine lv_iconst (v := (1 : Int32)) hx hb dX8_lays_122 (by decide) ?_
      refine lv_iadd hx hb dX8_lays_123 ?_
      refine va_put (D := (dC, dI)) (ci := 8) (v := .int (zj + (1 : Int32))) (ty := .int) (C := RX8) (T := TX8) (N := 26) hx hb hts hwX8_lays_RX8 tyX8 tyX8_ok nmX8 hown hK hP hD hS 0 rfl rfl 12 (by decide) (hts _ mwX8_lays_0) (fun _ h9 => h9) rfl (by decide +kernel) rfl rfl (Nat.le_of_ble_eq_true rfl) dX8_lays_124 (fun H locs hP hD hS => ?_)
      have hP : va_P (dC, dI) vwCl (wM q cI cJ cZ zn zm (zj + (1 : Int32)) zf zr zw zs zfr zto zk zt za zb zq zl zv zo zu zov ztu zsh zle zmo zc zlo zhi) H := hP
      have hD : va_D A (wM q cI cJ cZ zn zm (zj + (1 : Int32)) zf zr zw zs zfr zto zk zt za zb zq zl zv zo zu zov ztu zsh zle zmo zc zlo zhi) := hD
      refine lv_iload hx hb dX8_lays_127 (lv_at hl 4 rfl) ?_
      obtain ⟨g_12, hres⟩ := mi_g hres
      refine va_iast (D := (dC, dI)) (cl := vwCl) hx hb hK hP hD hS 10 0 rfl rfl g_12 dX8_lays_129 (fun H locs hP hD hS => ?_)
      have hP : va_P (dC, dI) vwCl (wM q cI cJ cZ zn zm (zj + (1 : Int32)) zf zr zw zs zfr zto zk zt za zb zq (upd zl (Int32.toNatClampNeg zj) x4) zv zo zu zov ztu zsh zle zmo zc zlo zhi) H := hP
      have hD : va_D A (wM q cI cJ cZ zn zm (zj + (1 : Int32)) zf zr zw zs zfr zto zk zt za zb zq (upd zl (Int32.toNatClampNeg zj) x4) zv zo zu zov ztu zsh zle zmo zc zlo zhi) := hD
      refine lv_iinc (v := x4 + (1 : Int32)) (lv' := [(4, .int (x4 + (1 : Int32))), (0, .ref (q 0)), (1, .int x1), (2, .int x2), (3, .int x3)]) hx hb dX8_lays_130 hl (k := 4) rfl rfl (by decide) rfl (fun ls hl => ?_)
      refine lv_goto (tgt := 106) hx hb dX8_lays_133 (by decide) ?_
      exact ih (zj + (1 : Int32)) (upd zl (Int32.toNatClampNeg zj) x4) x1 x2 x3 (x4 + (1 : Int32)) _ _ ls hP hD hS (lv_sub hl [1, 2, 3, 4, 0] rfl) hres
set_option maxHeartbeats 4000000 in
set_option maxRecDepth 100000 in
theorem zX8_lays_L91 {p : Program} {l : Launch} {e : Env} {s : State} {m : MethodId} {args : Array Value} {below : List Frame} {meth : Method} {c : Code} {A : Nat → Prop} {dC : Nat → ClassId} {dI : Nat → Nat → Nat} {q : Nat → Nat} {cI cJ cZ : ClassId} {zn : Int32} {zm : Int32} {zf : Int32} {zr : Int32} {zw : Nat → Int32} {zs : Nat → Int32} {zfr : Nat → Int32} {zto : Nat → Int32} {zk : Nat → Int32} {zt : Nat → Int32} {za : Nat → Int32} {zb : Nat → Int32} {zq : Nat → Int32} {zv : Nat → Int64} {zo : Nat → Int32} {zu : Nat → Int32} {zov : Nat → Int32} {ztu : Nat → Int32} {zsh : Nat → Int32} {zle : Nat → Int64} {zmo : Nat → Int64} {zc : Nat → Int32} {zlo : Nat → Int64} {zhi : Nat → Int64}  (C0 : Cx p s m args meth c cX8_lays 5 none RX8 wsX8_lays A (dC, dI) (ty3 cI cJ cZ)) {RES : (Int32) × (Nat → Int32)} {k7 : (Int32) → (Nat → Int32) → (Int32) → Option ((Int32) × (Nat → Int32))} (hk7 : iX8_lays_L7 p l e s m args below meth c A dC dI q cI cJ cZ zn zm zf zr zw zs zfr zto zk zt za zb zq zv zo zu zov ztu zsh zle zmo zc zlo zhi RES k7) : ∀ n : Nat, iX8_lays_L91 p l e s m args below meth c A dC dI q cI cJ cZ zn zm zf zr zw zs zfr zto zk zt za zb zq zv zo zu zov ztu zsh zle zmo zc zlo zhi RES (mX8_lays_L91 zn zk zb k7 n) := by
  have C1 := C0
  obtain ⟨hx, hb, hr, hml, hown, hts, hlocks, hN, hK, hA⟩ := C1
  intro n
  induction n with
  | zero =>
    intro zj zl x1 x2 x3 H locs ls hP hD hS hl hres
    exact mi_0 hres
  | succ n ih =>
    intro zj zl x1 x2 x3 H locs ls hP hD hS hl hres
    rw [mX8_lays_L91] at hres
    refine lv_iload_n hx hb dX8_lays_91 rfl (lv_at hl 3 rfl) ?_
    refine lv_aload_n hx hb dX8_lays_92 rfl (lv_at hl 0 rfl) ?_
    refine va_get (D := (dC, dI)) (ci := 8) (v := .ref (q 8)) (C := RX8) (T := TX8) (N := 26) hx hb hts hwX8_lays_RX8 hown hK hP 0 rfl rfl 7 (by decide) (hts _ mwX8_lays_4) (fun _ h9 => h9) rfl dX8_lays_93 ?_
    refine lv_iload_n hx hb dX8_lays_96 rfl (lv_at hl 1 rfl) ?_
    obtain ⟨g_9, hres⟩ := mi_g hres
    refine va_iald (D := (dC, dI)) (cl := vwCl) hx hb hK hP 8 0 rfl rfl g_9 dX8_lays_97 ?_
    refine lv_icmp_ge (tgt := 142) hx hb dX8_lays_98 (by decide) (fun c_10 => ?_) (fun c_10 => ?_)
    · replace hres := mi_p c_10 hres
      refine lv_iload_n hx hb dX8_lays_142 rfl (lv_at hl 2 rfl) ?_
      refine lv_istore_n (lv' := [(1, .int x2), (0, .ref (q 0)), (2, .int x2), (3, .int x3)]) hx hb dX8_lays_143 rfl hl (by decide) rfl (fun ls hl => ?_)
      refine lv_goto (tgt := 7) hx hb dX8_lays_144 (by decide) ?_
      exact hk7 zj zl x2 _ _ ls hP hD hS (lv_sub hl [1, 0] rfl) hres
    · replace hres := mi_n c_10 hres
      refine lv_iload_n hx hb dX8_lays_101 rfl (lv_at hl 1 rfl) ?_
      refine lv_iconst (v := (1 : Int32)) hx hb dX8_lays_102 (by decide) ?_
      refine lv_iadd hx hb dX8_lays_103 ?_
      refine lv_istore (lv' := [(4, .int (x1 + (1 : Int32))), (0, .ref (q 0)), (1, .int x1), (2, .int x2), (3, .int x3)]) hx hb dX8_lays_104 hl (by decide) rfl (fun ls hl => ?_)
      exact zX8_lays_L106 C0 hk7 ih FU zj zl x1 x2 x3 (x1 + (1 : Int32)) _ _ ls hP hD hS (lv_sub hl [1, 2, 3, 4, 0] rfl) hres
set_option maxHeartbeats 4000000 in
set_option maxRecDepth 100000 in
theorem zX8_lays_L64 {p : Program} {l : Launch} {e : Env} {s : State} {m : MethodId} {args : Array Value} {below : List Frame} {meth : Method} {c : Code} {A : Nat → Prop} {dC : Nat → ClassId} {dI : Nat → Nat → Nat} {q : Nat → Nat} {cI cJ cZ : ClassId} {zn : Int32} {zm : Int32} {zf : Int32} {zr : Int32} {zw : Nat → Int32} {zs : Nat → Int32} {zfr : Nat → Int32} {zto : Nat → Int32} {zk : Nat → Int32} {zt : Nat → Int32} {za : Nat → Int32} {zb : Nat → Int32} {zq : Nat → Int32} {zv : Nat → Int64} {zo : Nat → Int32} {zu : Nat → Int32} {zov : Nat → Int32} {ztu : Nat → Int32} {zsh : Nat → Int32} {zle : Nat → Int64} {zmo : Nat → Int64} {zc : Nat → Int32} {zlo : Nat → Int64} {zhi : Nat → Int64}  (C0 : Cx p s m args meth c cX8_lays 5 none RX8 wsX8_lays A (dC, dI) (ty3 cI cJ cZ)) {RES : (Int32) × (Nat → Int32)} {k7 : (Int32) → (Nat → Int32) → (Int32) → Option ((Int32) × (Nat → Int32))} (hk7 : iX8_lays_L7 p l e s m args below meth c A dC dI q cI cJ cZ zn zm zf zr zw zs zfr zto zk zt za zb zq zv zo zu zov ztu zsh zle zmo zc zlo zhi RES k7) : ∀ n : Nat, iX8_lays_L64 p l e s m args below meth c A dC dI q cI cJ cZ zn zm zf zr zw zs zfr zto zk zt za zb zq zv zo zu zov ztu zsh zle zmo zc zlo zhi RES (mX8_lays_L64 zn zk zb k7 n) := by
  have C1 := C0
  obtain ⟨hx, hb, hr, hml, hown, hts, hlocks, hN, hK, hA⟩ := C1
  intro n
  induction n with
  | zero =>
    intro zj zl x1 x2 H locs ls hP hD hS hl hres
    exact mi_0 hres
  | succ n ih =>
    intro zj zl x1 x2 H locs ls hP hD hS hl hres
    rw [mX8_lays_L64] at hres
    refine lv_iload_n hx hb dX8_lays_64 rfl (lv_at hl 2 rfl) ?_
    refine lv_aload_n hx hb dX8_lays_65 rfl (lv_at hl 0 rfl) ?_
    refine va_get (D := (dC, dI)) (ci := 8) (v := .int zn) (C := RX8) (T := TX8) (N := 26) hx hb hts hwX8_lays_RX8 hown hK hP 0 rfl rfl 9 (by decide) (hts _ mwX8_lays_1) (fun _ h9 => h9) rfl dX8_lays_66 ?_
    refine lv_icmp_ge (tgt := 89) hx hb dX8_lays_69 (by decide) (fun c_6 => ?_) (fun c_6 => ?_)
    · replace hres := mi_p c_6 hres
      refine lv_iconst (v := (0 : Int32)) hx hb dX8_lays_89 (by decide) ?_
      refine lv_istore_n (lv' := [(3, .int (0 : Int32)), (0, .ref (q 0)), (1, .int x1), (2, .int x2)]) hx hb dX8_lays_90 rfl hl (by decide) rfl (fun ls hl => ?_)
      exact zX8_lays_L91 C0 hk7 FU zj zl x1 x2 (0 : Int32) _ _ ls hP hD hS (lv_sub hl [1, 2, 3, 0] rfl) hres
    · replace hres := mi_n c_6 hres
      refine lv_aload_n hx hb dX8_lays_72 rfl (lv_at hl 0 rfl) ?_
      refine va_get (D := (dC, dI)) (ci := 8) (v := .ref (q 5)) (C := RX8) (T := TX8) (N := 26) hx hb hts hwX8_lays_RX8 hown hK hP 0 rfl rfl 4 (by decide) (hts _ mwX8_lays_2) (fun _ h9 => h9) rfl dX8_lays_73 ?_
      refine lv_iload_n hx hb dX8_lays_76 rfl (lv_at hl 2 rfl) ?_
      obtain ⟨g_7, hres⟩ := mi_g hres
      refine va_iald (D := (dC, dI)) (cl := vwCl) hx hb hK hP 5 0 rfl rfl g_7 dX8_lays_77 ?_
      refine lv_bipush (v := (9 : Int32)) hx hb dX8_lays_78 (by decide) ?_
      refine lv_icmp_eq (tgt := 89) hx hb dX8_lays_80 (by decide) (fun c_8 => ?_) (fun c_8 => ?_)
      · replace hres := mi_p c_8 hres
        refine lv_iconst (v := (0 : Int32)) hx hb dX8_lays_89 (by decide) ?_
        refine lv_istore_n (lv' := [(3, .int (0 : Int32)), (0, .ref (q 0)), (1, .int x1), (2, .int x2)]) hx hb dX8_lays_90 rfl hl (by decide) rfl (fun ls hl => ?_)
        exact zX8_lays_L91 C0 hk7 FU zj zl x1 x2 (0 : Int32) _ _ ls hP hD hS (lv_sub hl [1, 2, 3, 0] rfl) hres
      · replace hres := mi_n c_8 hres
        refine lv_iinc (v := x2 + (1 : Int32)) (lv' := [(2, .int (x2 + (1 : Int32))), (0, .ref (q 0)), (1, .int x1)]) hx hb dX8_lays_83 hl (k := 2) rfl rfl (by decide) rfl (fun ls hl => ?_)
        refine lv_goto (tgt := 64) hx hb dX8_lays_86 (by decide) ?_
        exact ih zj zl x1 (x2 + (1 : Int32)) _ _ ls hP hD hS (lv_sub hl [1, 2, 0] rfl) hres
set_option maxHeartbeats 4000000 in
set_option maxRecDepth 100000 in
theorem zX8_lays_L7 {p : Program} {l : Launch} {e : Env} {s : State} {m : MethodId} {args : Array Value} {below : List Frame} {meth : Method} {c : Code} {A : Nat → Prop} {dC : Nat → ClassId} {dI : Nat → Nat → Nat} {q : Nat → Nat} {cI cJ cZ : ClassId} {zn : Int32} {zm : Int32} {zf : Int32} {zr : Int32} {zw : Nat → Int32} {zs : Nat → Int32} {zfr : Nat → Int32} {zto : Nat → Int32} {zk : Nat → Int32} {zt : Nat → Int32} {za : Nat → Int32} {zb : Nat → Int32} {zq : Nat → Int32} {zv : Nat → Int64} {zo : Nat → Int32} {zu : Nat → Int32} {zov : Nat → Int32} {ztu : Nat → Int32} {zsh : Nat → Int32} {zle : Nat → Int64} {zmo : Nat → Int64} {zc : Nat → Int32} {zlo : Nat → Int64} {zhi : Nat → Int64}  (C0 : Cx p s m args meth c cX8_lays 5 none RX8 wsX8_lays A (dC, dI) (ty3 cI cJ cZ)) {RES : (Int32) × (Nat → Int32)}  : ∀ n : Nat, iX8_lays_L7 p l e s m args below meth c A dC dI q cI cJ cZ zn zm zf zr zw zs zfr zto zk zt za zb zq zv zo zu zov ztu zsh zle zmo zc zlo zhi RES (mX8_lays_L7 zn zk zb n) := by
  have C1 := C0
  obtain ⟨hx, hb, hr, hml, hown, hts, hlocks, hN, hK, hA⟩ := C1
  intro n
  induction n with
  | zero =>
    intro zj zl x1 H locs ls hP hD hS hl hres
    exact mi_0 hres
  | succ n ih =>
    intro zj zl x1 H locs ls hP hD hS hl hres
    rw [mX8_lays_L7] at hres
    refine lv_iload_n hx hb dX8_lays_7 rfl (lv_at hl 1 rfl) ?_
    refine lv_aload_n hx hb dX8_lays_8 rfl (lv_at hl 0 rfl) ?_
    refine va_get (D := (dC, dI)) (ci := 8) (v := .int zn) (C := RX8) (T := TX8) (N := 26) hx hb hts hwX8_lays_RX8 hown hK hP 0 rfl rfl 9 (by decide) (hts _ mwX8_lays_1) (fun _ h9 => h9) rfl dX8_lays_9 ?_
    refine lv_icmp_ge (tgt := 147) hx hb dX8_lays_12 (by decide) (fun c_1 => ?_) (fun c_1 => ?_)
    · replace hres := mi_p c_1 hres
      obtain rfl := Option.some.inj hres
      exact ret_V C0 hP hD hS dX8_lays_147
    · replace hres := mi_n c_1 hres
      refine lv_aload_n hx hb dX8_lays_15 rfl (lv_at hl 0 rfl) ?_
      refine va_get (D := (dC, dI)) (ci := 8) (v := .ref (q 5)) (C := RX8) (T := TX8) (N := 26) hx hb hts hwX8_lays_RX8 hown hK hP 0 rfl rfl 4 (by decide) (hts _ mwX8_lays_2) (fun _ h9 => h9) rfl dX8_lays_16 ?_
      refine lv_iload_n hx hb dX8_lays_19 rfl (lv_at hl 1 rfl) ?_
      obtain ⟨g_2, hres⟩ := mi_g hres
      refine va_iald (D := (dC, dI)) (cl := vwCl) hx hb hK hP 5 0 rfl rfl g_2 dX8_lays_20 ?_
      refine lv_bipush (v := (8 : Int32)) hx hb dX8_lays_21 (by decide) ?_
      refine lv_icmp_eq (tgt := 60) hx hb dX8_lays_23 (by decide) (fun c_3 => ?_) (fun c_3 => ?_)
      · replace hres := mi_p c_3 hres
        refine lv_iload_n hx hb dX8_lays_60 rfl (lv_at hl 1 rfl) ?_
        refine lv_iconst (v := (1 : Int32)) hx hb dX8_lays_61 (by decide) ?_
        refine lv_iadd hx hb dX8_lays_62 ?_
        refine lv_istore_n (lv' := [(2, .int (x1 + (1 : Int32))), (0, .ref (q 0)), (1, .int x1)]) hx hb dX8_lays_63 rfl hl (by decide) rfl (fun ls hl => ?_)
        exact zX8_lays_L64 C0 ih FU zj zl x1 (x1 + (1 : Int32)) _ _ ls hP hD hS (lv_sub hl [1, 2, 0] rfl) hres
      · replace hres := mi_n c_3 hres
        refine lv_aload_n hx hb dX8_lays_26 rfl (lv_at hl 0 rfl) ?_
        refine va_get (D := (dC, dI)) (ci := 8) (v := .ref (q 5)) (C := RX8) (T := TX8) (N := 26) hx hb hts hwX8_lays_RX8 hown hK hP 0 rfl rfl 4 (by decide) (hts _ mwX8_lays_2) (fun _ h9 => h9) rfl dX8_lays_27 ?_
        refine lv_iload_n hx hb dX8_lays_30 rfl (lv_at hl 1 rfl) ?_
        refine va_iald (D := (dC, dI)) (cl := vwCl) hx hb hK hP 5 0 rfl rfl g_2 dX8_lays_31 ?_
        refine lv_bipush (v := (9 : Int32)) hx hb dX8_lays_32 (by decide) ?_
        refine lv_icmp_eq (tgt := 54) hx hb dX8_lays_34 (by decide) (fun c_4 => ?_) (fun c_4 => ?_)
        · replace hres := mi_p c_4 hres
          refine lv_iinc (v := x1 + (1 : Int32)) (lv' := [(1, .int (x1 + (1 : Int32))), (0, .ref (q 0))]) hx hb dX8_lays_54 hl (k := 1) rfl rfl (by decide) rfl (fun ls hl => ?_)
          refine lv_goto (tgt := 7) hx hb dX8_lays_57 (by decide) ?_
          exact ih zj zl (x1 + (1 : Int32)) _ _ ls hP hD hS (lv_sub hl [1, 0] rfl) hres
        · replace hres := mi_n c_4 hres
          refine lv_aload_n hx hb dX8_lays_37 rfl (lv_at hl 0 rfl) ?_
          refine va_get (D := (dC, dI)) (ci := 8) (v := .ref (q 10)) (C := RX8) (T := TX8) (N := 26) hx hb hts hwX8_lays_RX8 hown hK hP 0 rfl rfl 11 (by decide) (hts _ mwX8_lays_3) (fun _ h9 => h9) rfl dX8_lays_38 ?_
          refine lv_aload_n hx hb dX8_lays_41 rfl (lv_at hl 0 rfl) ?_
          refine lv_dup hx hb dX8_lays_42 rfl ?_
          refine va_get (D := (dC, dI)) (ci := 8) (v := .int zj) (C := RX8) (T := TX8) (N := 26) hx hb hts hwX8_lays_RX8 hown hK hP 0 rfl rfl 12 (by decide) (hts _ mwX8_lays_0) (fun _ h9 => h9) rfl dX8_lays_43 ?_
          refine lv_dup_x1 hx hb dX8_lays_46 rfl rfl ?_
          refine lv_iconst (v := (1 : Int32)) hx hb dX8_lays_47 (by decide) ?_
          refine lv_iadd hx hb dX8_lays_48 ?_
          refine va_put (D := (dC, dI)) (ci := 8) (v := .int (zj + (1 : Int32))) (ty := .int) (C := RX8) (T := TX8) (N := 26) hx hb hts hwX8_lays_RX8 tyX8 tyX8_ok nmX8 hown hK hP hD hS 0 rfl rfl 12 (by decide) (hts _ mwX8_lays_0) (fun _ h9 => h9) rfl (by decide +kernel) rfl rfl (Nat.le_of_ble_eq_true rfl) dX8_lays_49 (fun H locs hP hD hS => ?_)
          have hP : va_P (dC, dI) vwCl (wM q cI cJ cZ zn zm (zj + (1 : Int32)) zf zr zw zs zfr zto zk zt za zb zq zl zv zo zu zov ztu zsh zle zmo zc zlo zhi) H := hP
          have hD : va_D A (wM q cI cJ cZ zn zm (zj + (1 : Int32)) zf zr zw zs zfr zto zk zt za zb zq zl zv zo zu zov ztu zsh zle zmo zc zlo zhi) := hD
          refine lv_iload_n hx hb dX8_lays_52 rfl (lv_at hl 1 rfl) ?_
          obtain ⟨g_5, hres⟩ := mi_g hres
          refine va_iast (D := (dC, dI)) (cl := vwCl) hx hb hK hP hD hS 10 0 rfl rfl g_5 dX8_lays_53 (fun H locs hP hD hS => ?_)
          have hP : va_P (dC, dI) vwCl (wM q cI cJ cZ zn zm (zj + (1 : Int32)) zf zr zw zs zfr zto zk zt za zb zq (upd zl (Int32.toNatClampNeg zj) x1) zv zo zu zov ztu zsh zle zmo zc zlo zhi) H := hP
          have hD : va_D A (wM q cI cJ cZ zn zm (zj + (1 : Int32)) zf zr zw zs zfr zto zk zt za zb zq (upd zl (Int32.toNatClampNeg zj) x1) zv zo zu zov ztu zsh zle zmo zc zlo zhi) := hD
          refine lv_iinc (v := x1 + (1 : Int32)) (lv' := [(1, .int (x1 + (1 : Int32))), (0, .ref (q 0))]) hx hb dX8_lays_54 hl (k := 1) rfl rfl (by decide) rfl (fun ls hl => ?_)
          refine lv_goto (tgt := 7) hx hb dX8_lays_57 (by decide) ?_
          exact ih (zj + (1 : Int32)) (upd zl (Int32.toNatClampNeg zj) x1) (x1 + (1 : Int32)) _ _ ls hP hD hS (lv_sub hl [1, 0] rfl) hres
set_option maxHeartbeats 4000000 in
set_option maxRecDepth 100000 in
theorem kX8_lays (l : Launch) (dC : Nat → ClassId) (dI : Nat → Nat → Nat) (q : Nat → Nat) (cI cJ cZ : ClassId) (zn : Int32) (zm : Int32) (zj : Int32) (zf : Int32) (zr : Int32) (zw : Nat → Int32) (zs : Nat → Int32) (zfr : Nat → Int32) (zto : Nat → Int32) (zk : Nat → Int32) (zt : Nat → Int32) (za : Nat → Int32) (zb : Nat → Int32) (zq : Nat → Int32) (zl : Nat → Int32) (zv : Nat → Int64) (zo : Nat → Int32) (zu : Nat → Int32) (zov : Nat → Int32) (ztu : Nat → Int32) (zsh : Nat → Int32) (zle : Nat → Int64) (zmo : Nat → Int64) (zc : Nat → Int32) (zlo : Nat → Int64) (zhi : Nat → Int64)  (RES : (Int32) × (Nat → Int32)) (hres : mX8_lays zn zj zk zb zl = some RES) : CtV l yX8_lays wsX8_lays rmX8_lays (dC, dI) (ty3 cI cJ cZ) (wM q cI cJ cZ zn zm zj zf zr zw zs zfr zto zk zt za zb zq zl zv zo zu zov ztu zsh zle zmo zc zlo zhi) [.ref (q 0)] (wM q cI cJ cZ zn zm RES.1 zf zr zw zs zfr zto zk zt za zb zq RES.2 zv zo zu zov ztu zsh zle zmo zc zlo zhi) := by
  intro sz
  refine ct_entry (cc := cX8_lays) (maxL := 5) (ret := none) (own := RX8) (by decide) rfl rfl (Nat.le_of_ble_eq_true rfl) (ll := [(0, .ref (q 0))]) rfl ?_
  intro p e s m args below meth c hsz C0 _ hP hD ls hl
  have C1 := C0
  obtain ⟨hx, hb, hr, hml, hown, hts, hlocks, hN, hK, hA⟩ := C1
  have hS : va_S (va_A (wM q cI cJ cZ zn zm zj zf zr zw zs zfr zto zk zt za zb zq zl zv zo zu zov ztu zsh zle zmo zc zlo zhi) sz) s.heap s.heap [] := va_S.rf
  generalize va_A (wM q cI cJ cZ zn zm zj zf zr zw zs zfr zto zk zt za zb zq zl zv zo zu zov ztu zsh zle zmo zc zlo zhi) sz = A at C0 hD hA hS ⊢
  show W p l e rmX8_lays s m args below meth c s.heap [] 0 0 (QV below args s A (dC, dI) (ty3 cI cJ cZ) (wM q cI cJ cZ zn zm RES.1 zf zr zw zs zfr zto zk zt za zb zq RES.2 zv zo zu zov ztu zsh zle zmo zc zlo zhi)) (F0 m 0 ls [])
  unfold mX8_lays at hres
  refine lv_aload_n hx hb dX8_lays_0 rfl (lv_at hl 0 rfl) ?_
  refine lv_iconst (v := (0 : Int32)) hx hb dX8_lays_1 (by decide) ?_
  refine va_put (D := (dC, dI)) (ci := 8) (v := .int (0 : Int32)) (ty := .int) (C := RX8) (T := TX8) (N := 26) hx hb hts hwX8_lays_RX8 tyX8 tyX8_ok nmX8 hown hK hP hD hS 0 rfl rfl 12 (by decide) (hts _ mwX8_lays_0) (fun _ h9 => h9) rfl (by decide +kernel) rfl rfl (Nat.le_of_ble_eq_true rfl) dX8_lays_2 (fun H locs hP hD hS => ?_)
  have hP : va_P (dC, dI) vwCl (wM q cI cJ cZ zn zm (0 : Int32) zf zr zw zs zfr zto zk zt za zb zq zl zv zo zu zov ztu zsh zle zmo zc zlo zhi) H := hP
  have hD : va_D A (wM q cI cJ cZ zn zm (0 : Int32) zf zr zw zs zfr zto zk zt za zb zq zl zv zo zu zov ztu zsh zle zmo zc zlo zhi) := hD
  refine lv_iconst (v := (0 : Int32)) hx hb dX8_lays_5 (by decide) ?_
  refine lv_istore_n (lv' := [(1, .int (0 : Int32)), (0, .ref (q 0))]) hx hb dX8_lays_6 rfl hl (by decide) rfl (fun ls hl => ?_)
  exact zX8_lays_L7 C0  FU (0 : Int32) zl (0 : Int32) _ _ ls hP hD hS (lv_sub hl [1, 0] rfl) hres
/-! ### SumsOverModel.low(I)J -/
set_option maxRecDepth 20000 in
theorem hwX8_low_RX8 : ∀ w ∈ u_ws RX8 TX8 26, w ∈ wsX8_low := by decide +kernel
theorem mwX8_low_0 : (.fieldLink RX8 13 "SumsOverModel" "isSigned" "[Z" : Cond) ∈ wsX8_low := by decide +kernel
theorem mwX8_low_1 : (.fieldLink RX8 9 "SumsOverModel" "width" "[I" : Cond) ∈ wsX8_low := by decide +kernel
def rmX8_low : Room := { frames := 0, cells := 0, slots := 0, locals := 0 }
set_option maxHeartbeats 4000000 in
set_option maxRecDepth 100000 in
theorem kX8_low (l : Launch) (dC : Nat → ClassId) (dI : Nat → Nat → Nat) (q : Nat → Nat) (cI cJ cZ : ClassId) (zn : Int32) (zm : Int32) (zj : Int32) (zf : Int32) (zr : Int32) (zw : Nat → Int32) (zs : Nat → Int32) (zfr : Nat → Int32) (zto : Nat → Int32) (zk : Nat → Int32) (zt : Nat → Int32) (za : Nat → Int32) (zb : Nat → Int32) (zq : Nat → Int32) (zl : Nat → Int32) (zv : Nat → Int64) (zo : Nat → Int32) (zu : Nat → Int32) (zov : Nat → Int32) (ztu : Nat → Int32) (zsh : Nat → Int32) (zle : Nat → Int64) (zmo : Nat → Int64) (zc : Nat → Int32) (zlo : Nat → Int64) (zhi : Nat → Int64) (x1 : Int32) (RES : Int64) (hres : mX8_low zw zs x1 = some RES) : CtL l yX8_low wsX8_low rmX8_low (dC, dI) (ty3 cI cJ cZ) (wM q cI cJ cZ zn zm zj zf zr zw zs zfr zto zk zt za zb zq zl zv zo zu zov ztu zsh zle zmo zc zlo zhi) [.ref (q 0), .int x1] RES (wM q cI cJ cZ zn zm zj zf zr zw zs zfr zto zk zt za zb zq zl zv zo zu zov ztu zsh zle zmo zc zlo zhi) := by
  intro sz
  refine ct_entry (cc := cX8_low) (maxL := 2) (ret := some .long) (own := RX8) (by decide) rfl rfl (Nat.le_of_ble_eq_true rfl) (ll := [(0, .ref (q 0)), (1, .int x1)]) rfl ?_
  intro p e s m args below meth c hsz C0 _ hP hD ls hl
  have C1 := C0
  obtain ⟨hx, hb, hr, hml, hown, hts, hlocks, hN, hK, hA⟩ := C1
  have hS : va_S (va_A (wM q cI cJ cZ zn zm zj zf zr zw zs zfr zto zk zt za zb zq zl zv zo zu zov ztu zsh zle zmo zc zlo zhi) sz) s.heap s.heap [] := va_S.rf
  generalize va_A (wM q cI cJ cZ zn zm zj zf zr zw zs zfr zto zk zt za zb zq zl zv zo zu zov ztu zsh zle zmo zc zlo zhi) sz = A at C0 hD hA hS ⊢
  show W p l e rmX8_low s m args below meth c s.heap [] 0 0 (QL below args s A (dC, dI) (ty3 cI cJ cZ) RES (wM q cI cJ cZ zn zm zj zf zr zw zs zfr zto zk zt za zb zq zl zv zo zu zov ztu zsh zle zmo zc zlo zhi)) (F0 m 0 ls [])
  unfold mX8_low at hres
  refine lv_aload_n hx hb dX8_low_0 rfl (lv_at hl 0 rfl) ?_
  refine va_get (D := (dC, dI)) (ci := 8) (v := .ref (q 2)) (C := RX8) (T := TX8) (N := 26) hx hb hts hwX8_low_RX8 hown hK hP 0 rfl rfl 1 (by decide) (hts _ mwX8_low_0) (fun _ h9 => h9) rfl dX8_low_1 ?_
  refine lv_iload_n hx hb dX8_low_4 rfl (lv_at hl 1 rfl) ?_
  obtain ⟨g_1, hres⟩ := mi_g hres
  refine va_zald (D := (dC, dI)) (cl := vwCl) hx hb hK hP 2 2 rfl rfl g_1 dX8_low_5 ?_
  refine lv_if_eq (tgt := 23) hx hb dX8_low_6 (by decide) (fun c_2 => ?_) (fun c_2 => ?_)
  · replace hres := mi_p c_2 hres
    refine lv_lconst (v := (0 : Int64)) hx hb dX8_low_23 (by decide) ?_
    obtain rfl := Option.some.inj hres
    exact ret_L (r := (0 : Int64)) C0 hP hD hS dX8_low_24
  · replace hres := mi_n c_2 hres
    refine lv_lconst (v := (1 : Int64)) hx hb dX8_low_9 (by decide) ?_
    refine lv_aload_n hx hb dX8_low_10 rfl (lv_at hl 0 rfl) ?_
    refine va_get (D := (dC, dI)) (ci := 8) (v := .ref (q 1)) (C := RX8) (T := TX8) (N := 26) hx hb hts hwX8_low_RX8 hown hK hP 0 rfl rfl 0 (by decide) (hts _ mwX8_low_1) (fun _ h9 => h9) rfl dX8_low_11 ?_
    refine lv_iload_n hx hb dX8_low_14 rfl (lv_at hl 1 rfl) ?_
    refine va_iald (D := (dC, dI)) (cl := vwCl) hx hb hK hP 1 0 rfl rfl g_1 dX8_low_15 ?_
    refine lv_iconst (v := (1 : Int32)) hx hb dX8_low_16 (by decide) ?_
    refine lv_isub hx hb dX8_low_17 ?_
    refine lv_lshl (v := ((1 : Int64) <<< ((((zw (Int32.toNatClampNeg x1)) - (1 : Int32))).toInt64 &&& 63))) hx hb dX8_low_18 rfl ?_
    refine lv_lneg hx hb dX8_low_19 ?_
    refine lv_goto (tgt := 24) hx hb dX8_low_20 (by decide) ?_
    obtain rfl := Option.some.inj hres
    exact ret_L (r := (-((1 : Int64) <<< ((((zw (Int32.toNatClampNeg x1)) - (1 : Int32))).toInt64 &&& 63)))) C0 hP hD hS dX8_low_24
/-! ### SumsOverModel.high(I)J -/
set_option maxRecDepth 20000 in
theorem hwX8_high_RX8 : ∀ w ∈ u_ws RX8 TX8 26, w ∈ wsX8_high := by decide +kernel
theorem mwX8_high_0 : (.fieldLink RX8 13 "SumsOverModel" "isSigned" "[Z" : Cond) ∈ wsX8_high := by decide +kernel
theorem mwX8_high_1 : (.fieldLink RX8 9 "SumsOverModel" "width" "[I" : Cond) ∈ wsX8_high := by decide +kernel
def rmX8_high : Room := { frames := 0, cells := 0, slots := 0, locals := 0 }
set_option maxHeartbeats 4000000 in
set_option maxRecDepth 100000 in
theorem kX8_high (l : Launch) (dC : Nat → ClassId) (dI : Nat → Nat → Nat) (q : Nat → Nat) (cI cJ cZ : ClassId) (zn : Int32) (zm : Int32) (zj : Int32) (zf : Int32) (zr : Int32) (zw : Nat → Int32) (zs : Nat → Int32) (zfr : Nat → Int32) (zto : Nat → Int32) (zk : Nat → Int32) (zt : Nat → Int32) (za : Nat → Int32) (zb : Nat → Int32) (zq : Nat → Int32) (zl : Nat → Int32) (zv : Nat → Int64) (zo : Nat → Int32) (zu : Nat → Int32) (zov : Nat → Int32) (ztu : Nat → Int32) (zsh : Nat → Int32) (zle : Nat → Int64) (zmo : Nat → Int64) (zc : Nat → Int32) (zlo : Nat → Int64) (zhi : Nat → Int64) (x1 : Int32) (RES : Int64) (hres : mX8_high zw zs x1 = some RES) : CtL l yX8_high wsX8_high rmX8_high (dC, dI) (ty3 cI cJ cZ) (wM q cI cJ cZ zn zm zj zf zr zw zs zfr zto zk zt za zb zq zl zv zo zu zov ztu zsh zle zmo zc zlo zhi) [.ref (q 0), .int x1] RES (wM q cI cJ cZ zn zm zj zf zr zw zs zfr zto zk zt za zb zq zl zv zo zu zov ztu zsh zle zmo zc zlo zhi) := by
  intro sz
  refine ct_entry (cc := cX8_high) (maxL := 2) (ret := some .long) (own := RX8) (by decide) rfl rfl (Nat.le_of_ble_eq_true rfl) (ll := [(0, .ref (q 0)), (1, .int x1)]) rfl ?_
  intro p e s m args below meth c hsz C0 _ hP hD ls hl
  have C1 := C0
  obtain ⟨hx, hb, hr, hml, hown, hts, hlocks, hN, hK, hA⟩ := C1
  have hS : va_S (va_A (wM q cI cJ cZ zn zm zj zf zr zw zs zfr zto zk zt za zb zq zl zv zo zu zov ztu zsh zle zmo zc zlo zhi) sz) s.heap s.heap [] := va_S.rf
  generalize va_A (wM q cI cJ cZ zn zm zj zf zr zw zs zfr zto zk zt za zb zq zl zv zo zu zov ztu zsh zle zmo zc zlo zhi) sz = A at C0 hD hA hS ⊢
  show W p l e rmX8_high s m args below meth c s.heap [] 0 0 (QL below args s A (dC, dI) (ty3 cI cJ cZ) RES (wM q cI cJ cZ zn zm zj zf zr zw zs zfr zto zk zt za zb zq zl zv zo zu zov ztu zsh zle zmo zc zlo zhi)) (F0 m 0 ls [])
  unfold mX8_high at hres
  refine lv_lconst (v := (1 : Int64)) hx hb dX8_high_0 (by decide) ?_
  refine lv_aload_n hx hb dX8_high_1 rfl (lv_at hl 0 rfl) ?_
  refine va_get (D := (dC, dI)) (ci := 8) (v := .ref (q 2)) (C := RX8) (T := TX8) (N := 26) hx hb hts hwX8_high_RX8 hown hK hP 0 rfl rfl 1 (by decide) (hts _ mwX8_high_0) (fun _ h9 => h9) rfl dX8_high_2 ?_
  refine lv_iload_n hx hb dX8_high_5 rfl (lv_at hl 1 rfl) ?_
  obtain ⟨g_1, hres⟩ := mi_g hres
  refine va_zald (D := (dC, dI)) (cl := vwCl) hx hb hK hP 2 2 rfl rfl g_1 dX8_high_6 ?_
  refine lv_if_eq (tgt := 21) hx hb dX8_high_7 (by decide) (fun c_2 => ?_) (fun c_2 => ?_)
  · replace hres := mi_p c_2 hres
    refine lv_aload_n hx hb dX8_high_21 rfl (lv_at hl 0 rfl) ?_
    refine va_get (D := (dC, dI)) (ci := 8) (v := .ref (q 1)) (C := RX8) (T := TX8) (N := 26) hx hb hts hwX8_high_RX8 hown hK hP 0 rfl rfl 0 (by decide) (hts _ mwX8_high_1) (fun _ h9 => h9) rfl dX8_high_22 ?_
    refine lv_iload_n hx hb dX8_high_25 rfl (lv_at hl 1 rfl) ?_
    refine va_iald (D := (dC, dI)) (cl := vwCl) hx hb hK hP 1 0 rfl rfl g_1 dX8_high_26 ?_
    refine lv_lshl (v := ((1 : Int64) <<< (((zw (Int32.toNatClampNeg x1))).toInt64 &&& 63))) hx hb dX8_high_27 rfl ?_
    refine lv_lconst (v := (1 : Int64)) hx hb dX8_high_28 (by decide) ?_
    refine lv_lsub hx hb dX8_high_29 ?_
    obtain rfl := Option.some.inj hres
    exact ret_L (r := (((1 : Int64) <<< (((zw (Int32.toNatClampNeg x1))).toInt64 &&& 63)) - (1 : Int64))) C0 hP hD hS dX8_high_30
  · replace hres := mi_n c_2 hres
    refine lv_aload_n hx hb dX8_high_10 rfl (lv_at hl 0 rfl) ?_
    refine va_get (D := (dC, dI)) (ci := 8) (v := .ref (q 1)) (C := RX8) (T := TX8) (N := 26) hx hb hts hwX8_high_RX8 hown hK hP 0 rfl rfl 0 (by decide) (hts _ mwX8_high_1) (fun _ h9 => h9) rfl dX8_high_11 ?_
    refine lv_iload_n hx hb dX8_high_14 rfl (lv_at hl 1 rfl) ?_
    refine va_iald (D := (dC, dI)) (cl := vwCl) hx hb hK hP 1 0 rfl rfl g_1 dX8_high_15 ?_
    refine lv_iconst (v := (1 : Int32)) hx hb dX8_high_16 (by decide) ?_
    refine lv_isub hx hb dX8_high_17 ?_
    refine lv_goto (tgt := 27) hx hb dX8_high_18 (by decide) ?_
    refine lv_lshl (v := ((1 : Int64) <<< ((((zw (Int32.toNatClampNeg x1)) - (1 : Int32))).toInt64 &&& 63))) hx hb dX8_high_27 rfl ?_
    refine lv_lconst (v := (1 : Int64)) hx hb dX8_high_28 (by decide) ?_
    refine lv_lsub hx hb dX8_high_29 ?_
    obtain rfl := Option.some.inj hres
    exact ret_L (r := (((1 : Int64) <<< ((((zw (Int32.toNatClampNeg x1)) - (1 : Int32))).toInt64 &&& 63)) - (1 : Int64))) C0 hP hD hS dX8_high_30
/-! ### SumsOverModel.put(IJ)J -/
set_option maxRecDepth 20000 in
theorem hwX8_put_RX8 : ∀ w ∈ u_ws RX8 TX8 26, w ∈ wsX8_put := by decide +kernel
theorem mwX8_put_0 : (.fieldLink RX8 107 "SumsOverModel" "mode" "I" : Cond) ∈ wsX8_put := by decide +kernel
theorem mwX8_put_1 : (.fieldLink RX8 9 "SumsOverModel" "width" "[I" : Cond) ∈ wsX8_put := by decide +kernel
def rmX8_put : Room := { frames := 1, cells := 0, slots := 0, locals := 25 }
set_option maxHeartbeats 4000000 in
set_option maxRecDepth 100000 in
theorem kX8_put (l : Launch) (dC : Nat → ClassId) (dI : Nat → Nat → Nat) (q : Nat → Nat) (cI cJ cZ : ClassId) (zn : Int32) (zm : Int32) (zj : Int32) (zf : Int32) (zr : Int32) (zw : Nat → Int32) (zs : Nat → Int32) (zfr : Nat → Int32) (zto : Nat → Int32) (zk : Nat → Int32) (zt : Nat → Int32) (za : Nat → Int32) (zb : Nat → Int32) (zq : Nat → Int32) (zl : Nat → Int32) (zv : Nat → Int64) (zo : Nat → Int32) (zu : Nat → Int32) (zov : Nat → Int32) (ztu : Nat → Int32) (zsh : Nat → Int32) (zle : Nat → Int64) (zmo : Nat → Int64) (zc : Nat → Int32) (zlo : Nat → Int64) (zhi : Nat → Int64) (x1 : Int32) (x2 : Int64) (RES : Int64) (hres : mX8_put zm zw zs x1 x2 = some RES) : CtL l yX8_put wsX8_put rmX8_put (dC, dI) (ty3 cI cJ cZ) (wM q cI cJ cZ zn zm zj zf zr zw zs zfr zto zk zt za zb zq zl zv zo zu zov ztu zsh zle zmo zc zlo zhi) [.ref (q 0), .int x1, .long x2] RES (wM q cI cJ cZ zn zm zj zf zr zw zs zfr zto zk zt za zb zq zl zv zo zu zov ztu zsh zle zmo zc zlo zhi) := by
  intro sz
  refine ct_entry (cc := cX8_put) (maxL := 4) (ret := some .long) (own := RX8) (by decide) rfl rfl (Nat.le_of_ble_eq_true rfl) (ll := [(0, .ref (q 0)), (1, .int x1), (2, .long x2)]) rfl ?_
  intro p e s m args below meth c hsz C0 _ hP hD ls hl
  have C1 := C0
  obtain ⟨hx, hb, hr, hml, hown, hts, hlocks, hN, hK, hA⟩ := C1
  have hS : va_S (va_A (wM q cI cJ cZ zn zm zj zf zr zw zs zfr zto zk zt za zb zq zl zv zo zu zov ztu zsh zle zmo zc zlo zhi) sz) s.heap s.heap [] := va_S.rf
  generalize va_A (wM q cI cJ cZ zn zm zj zf zr zw zs zfr zto zk zt za zb zq zl zv zo zu zov ztu zsh zle zmo zc zlo zhi) sz = A at C0 hD hA hS ⊢
  show W p l e rmX8_put s m args below meth c s.heap [] 0 0 (QL below args s A (dC, dI) (ty3 cI cJ cZ) RES (wM q cI cJ cZ zn zm zj zf zr zw zs zfr zto zk zt za zb zq zl zv zo zu zov ztu zsh zle zmo zc zlo zhi)) (F0 m 0 ls [])
  unfold mX8_put at hres
  refine lv_lload_n hx hb dX8_put_0 rfl (lv_at hl 2 rfl) ?_
  refine lv_aload_n hx hb dX8_put_1 rfl (lv_at hl 0 rfl) ?_
  refine lv_iload_n hx hb dX8_put_2 rfl (lv_at hl 1 rfl) ?_
  obtain ⟨u1, hu1, hres⟩ := mi_b hres
  refine call_L C0 (run_V C0 (rest := [.long x2]) (kX8_low l dC dI q cI cJ cZ zn zm zj zf zr zw zs zfr zto zk zt za zb zq zl zv zo zu zov ztu zsh zle zmo zc zlo zhi  x1 u1 hu1 _) (cwV 1 hts gX8_put_X8_low rfl rfl rfl (by decide +kernel) ⟨by decide, by decide⟩) hP hD (ci := 8) (q0 := 0) rfl rfl rfl hl.1 rfl (Nat.le_of_ble_eq_true rfl) dX8_put_3) hD hS (fun H locs hP hD hS => ?_)
  refine lv_aload_n hx hb dX8_put_6 rfl (lv_at hl 0 rfl) ?_
  refine lv_iload_n hx hb dX8_put_7 rfl (lv_at hl 1 rfl) ?_
  obtain ⟨u2, hu2, hres⟩ := mi_b hres
  refine call_L C0 (run_V C0 (rest := [.long u1, .long x2]) (kX8_high l dC dI q cI cJ cZ zn zm zj zf zr zw zs zfr zto zk zt za zb zq zl zv zo zu zov ztu zsh zle zmo zc zlo zhi  x1 u2 hu2 _) (cwV 1 hts gX8_put_X8_high rfl rfl rfl (by decide +kernel) ⟨by decide, by decide⟩) hP hD (ci := 8) (q0 := 0) rfl rfl rfl hl.1 rfl (Nat.le_of_ble_eq_true rfl) dX8_put_8) hD hS (fun H locs hP hD hS => ?_)
  obtain ⟨u3, hu3, hres⟩ := mi_b hres
  refine call_I C0 (run_S C0 (rest := []) (kX8_in l (dC, dI) (ty3 cI cJ cZ) (wM q cI cJ cZ zn zm zj zf zr zw zs zfr zto zk zt za zb zq zl zv zo zu zov ztu zsh zle zmo zc zlo zhi) x2 u1 u2 u3 hu3 _) (va_cwS 3 hts gX8_put_X8_in rfl rfl rfl (by decide +kernel) ⟨by decide, by decide⟩) hP hD rfl hl.1 rfl (Nat.le_of_ble_eq_true rfl) dX8_put_11) hD hS (fun H locs hP hD hS => ?_)
  refine lv_if_eq (tgt := 19) hx hb dX8_put_14 (by decide) (fun c_4 => ?_) (fun c_4 => ?_)
  · replace hres := mi_p c_4 hres
    refine lv_aload_n hx hb dX8_put_19 rfl (lv_at hl 0 rfl) ?_
    refine va_get (D := (dC, dI)) (ci := 8) (v := .int zm) (C := RX8) (T := TX8) (N := 26) hx hb hts hwX8_put_RX8 hown hK hP 0 rfl rfl 10 (by decide) (hts _ mwX8_put_0) (fun _ h9 => h9) rfl dX8_put_20 ?_
    refine lv_iconst (v := (1 : Int32)) hx hb dX8_put_23 (by decide) ?_
    refine lv_icmp_ne (tgt := 51) hx hb dX8_put_24 (by decide) (fun c_5 => ?_) (fun c_5 => ?_)
    · replace hres := mi_n c_5 hres
      refine lv_aload_n hx hb dX8_put_51 rfl (lv_at hl 0 rfl) ?_
      refine lv_iload_n hx hb dX8_put_52 rfl (lv_at hl 1 rfl) ?_
      obtain ⟨u6, hu6, hres⟩ := mi_b hres
      refine call_L C0 (run_V C0 (rest := []) (kX8_low l dC dI q cI cJ cZ zn zm zj zf zr zw zs zfr zto zk zt za zb zq zl zv zo zu zov ztu zsh zle zmo zc zlo zhi  x1 u6 hu6 _) (cwV 1 hts gX8_put_X8_low rfl rfl rfl (by decide +kernel) ⟨by decide, by decide⟩) hP hD (ci := 8) (q0 := 0) rfl rfl rfl hl.1 rfl (Nat.le_of_ble_eq_true rfl) dX8_put_53) hD hS (fun H locs hP hD hS => ?_)
      refine lv_lload_n hx hb dX8_put_56 rfl (lv_at hl 2 rfl) ?_
      refine lv_aload_n hx hb dX8_put_57 rfl (lv_at hl 0 rfl) ?_
      refine lv_iload_n hx hb dX8_put_58 rfl (lv_at hl 1 rfl) ?_
      obtain ⟨u7, hu7, hres⟩ := mi_b hres
      refine call_L C0 (run_V C0 (rest := [.long x2, .long u6]) (kX8_low l dC dI q cI cJ cZ zn zm zj zf zr zw zs zfr zto zk zt za zb zq zl zv zo zu zov ztu zsh zle zmo zc zlo zhi  x1 u7 hu7 _) (cwV 1 hts gX8_put_X8_low rfl rfl rfl (by decide +kernel) ⟨by decide, by decide⟩) hP hD (ci := 8) (q0 := 0) rfl rfl rfl hl.1 rfl (Nat.le_of_ble_eq_true rfl) dX8_put_59) hD hS (fun H locs hP hD hS => ?_)
      refine lv_lsub hx hb dX8_put_62 ?_
      refine lv_lconst (v := (1 : Int64)) hx hb dX8_put_63 (by decide) ?_
      refine lv_aload_n hx hb dX8_put_64 rfl (lv_at hl 0 rfl) ?_
      refine va_get (D := (dC, dI)) (ci := 8) (v := .ref (q 1)) (C := RX8) (T := TX8) (N := 26) hx hb hts hwX8_put_RX8 hown hK hP 0 rfl rfl 0 (by decide) (hts _ mwX8_put_1) (fun _ h9 => h9) rfl dX8_put_65 ?_
      refine lv_iload_n hx hb dX8_put_68 rfl (lv_at hl 1 rfl) ?_
      obtain ⟨g_8, hres⟩ := mi_g hres
      refine va_iald (D := (dC, dI)) (cl := vwCl) hx hb hK hP 1 0 rfl rfl g_8 dX8_put_69 ?_
      refine lv_lshl (v := ((1 : Int64) <<< (((zw (Int32.toNatClampNeg x1))).toInt64 &&& 63))) hx hb dX8_put_70 rfl ?_
      obtain ⟨u9, hu9, hres⟩ := mi_b hres
      refine call_L C0 (run_S C0 (rest := [.long u6]) (kX8_rest l (dC, dI) (ty3 cI cJ cZ) (wM q cI cJ cZ zn zm zj zf zr zw zs zfr zto zk zt za zb zq zl zv zo zu zov ztu zsh zle zmo zc zlo zhi) (x2 - u7) ((1 : Int64) <<< (((zw (Int32.toNatClampNeg x1))).toInt64 &&& 63)) u9 hu9 _) (va_cwS 2 hts gX8_put_X8_rest rfl rfl rfl (by decide +kernel) ⟨by decide, by decide⟩) hP hD rfl hl.1 rfl (Nat.le_of_ble_eq_true rfl) dX8_put_71) hD hS (fun H locs hP hD hS => ?_)
      refine lv_ladd hx hb dX8_put_74 ?_
      obtain rfl := Option.some.inj hres
      exact ret_L (r := (u6 + u9)) C0 hP hD hS dX8_put_75
    · replace hres := mi_p c_5 hres
      refine lv_lload_n hx hb dX8_put_27 rfl (lv_at hl 2 rfl) ?_
      refine lv_aload_n hx hb dX8_put_28 rfl (lv_at hl 0 rfl) ?_
      refine lv_iload_n hx hb dX8_put_29 rfl (lv_at hl 1 rfl) ?_
      obtain ⟨u10, hu10, hres⟩ := mi_b hres
      refine call_L C0 (run_V C0 (rest := [.long x2]) (kX8_low l dC dI q cI cJ cZ zn zm zj zf zr zw zs zfr zto zk zt za zb zq zl zv zo zu zov ztu zsh zle zmo zc zlo zhi  x1 u10 hu10 _) (cwV 1 hts gX8_put_X8_low rfl rfl rfl (by decide +kernel) ⟨by decide, by decide⟩) hP hD (ci := 8) (q0 := 0) rfl rfl rfl hl.1 rfl (Nat.le_of_ble_eq_true rfl) dX8_put_30) hD hS (fun H locs hP hD hS => ?_)
      refine W.lcmp hx hb dX8_put_33 ?_
      refine lv_if_ge (tgt := 45) hx hb dX8_put_34 (by decide) (fun c_11 => ?_) (fun c_11 => ?_)
      · rw [lg_cmp_ge] at c_11
        replace hres := mi_p c_11 hres
        refine lv_aload_n hx hb dX8_put_45 rfl (lv_at hl 0 rfl) ?_
        refine lv_iload_n hx hb dX8_put_46 rfl (lv_at hl 1 rfl) ?_
        obtain ⟨u12, hu12, hres⟩ := mi_b hres
        refine call_L C0 (run_V C0 (rest := []) (kX8_high l dC dI q cI cJ cZ zn zm zj zf zr zw zs zfr zto zk zt za zb zq zl zv zo zu zov ztu zsh zle zmo zc zlo zhi  x1 u12 hu12 _) (cwV 1 hts gX8_put_X8_high rfl rfl rfl (by decide +kernel) ⟨by decide, by decide⟩) hP hD (ci := 8) (q0 := 0) rfl rfl rfl hl.1 rfl (Nat.le_of_ble_eq_true rfl) dX8_put_47) hD hS (fun H locs hP hD hS => ?_)
        obtain rfl := Option.some.inj hres
        exact ret_L (r := u12) C0 hP hD hS dX8_put_50
      · rw [lg_cmp_ge] at c_11
        replace hres := mi_n c_11 hres
        refine lv_aload_n hx hb dX8_put_37 rfl (lv_at hl 0 rfl) ?_
        refine lv_iload_n hx hb dX8_put_38 rfl (lv_at hl 1 rfl) ?_
        obtain ⟨u13, hu13, hres⟩ := mi_b hres
        refine call_L C0 (run_V C0 (rest := []) (kX8_low l dC dI q cI cJ cZ zn zm zj zf zr zw zs zfr zto zk zt za zb zq zl zv zo zu zov ztu zsh zle zmo zc zlo zhi  x1 u13 hu13 _) (cwV 1 hts gX8_put_X8_low rfl rfl rfl (by decide +kernel) ⟨by decide, by decide⟩) hP hD (ci := 8) (q0 := 0) rfl rfl rfl hl.1 rfl (Nat.le_of_ble_eq_true rfl) dX8_put_39) hD hS (fun H locs hP hD hS => ?_)
        refine lv_goto (tgt := 50) hx hb dX8_put_42 (by decide) ?_
        obtain rfl := Option.some.inj hres
        exact ret_L (r := u13) C0 hP hD hS dX8_put_50
  · replace hres := mi_n c_4 hres
    refine lv_lload_n hx hb dX8_put_17 rfl (lv_at hl 2 rfl) ?_
    obtain rfl := Option.some.inj hres
    exact ret_L (r := x2) C0 hP hD hS dX8_put_18
/-! ### SumsOverModel.goesOver(IJ)Z -/
def rmX8_goesOver : Room := { frames := 1, cells := 0, slots := 0, locals := 25 }
set_option maxHeartbeats 4000000 in
set_option maxRecDepth 100000 in
theorem kX8_goesOver (l : Launch) (dC : Nat → ClassId) (dI : Nat → Nat → Nat) (q : Nat → Nat) (cI cJ cZ : ClassId) (zn : Int32) (zm : Int32) (zj : Int32) (zf : Int32) (zr : Int32) (zw : Nat → Int32) (zs : Nat → Int32) (zfr : Nat → Int32) (zto : Nat → Int32) (zk : Nat → Int32) (zt : Nat → Int32) (za : Nat → Int32) (zb : Nat → Int32) (zq : Nat → Int32) (zl : Nat → Int32) (zv : Nat → Int64) (zo : Nat → Int32) (zu : Nat → Int32) (zov : Nat → Int32) (ztu : Nat → Int32) (zsh : Nat → Int32) (zle : Nat → Int64) (zmo : Nat → Int64) (zc : Nat → Int32) (zlo : Nat → Int64) (zhi : Nat → Int64) (x1 : Int32) (x2 : Int64) (RES : Int32) (hres : mX8_goesOver zw zs x1 x2 = some RES) : CtI l yX8_goesOver wsX8_goesOver rmX8_goesOver (dC, dI) (ty3 cI cJ cZ) (wM q cI cJ cZ zn zm zj zf zr zw zs zfr zto zk zt za zb zq zl zv zo zu zov ztu zsh zle zmo zc zlo zhi) [.ref (q 0), .int x1, .long x2] RES (wM q cI cJ cZ zn zm zj zf zr zw zs zfr zto zk zt za zb zq zl zv zo zu zov ztu zsh zle zmo zc zlo zhi) := by
  intro sz
  refine ct_entry (cc := cX8_goesOver) (maxL := 4) (ret := some .boolean) (own := RX8) (by decide) rfl rfl (Nat.le_of_ble_eq_true rfl) (ll := [(0, .ref (q 0)), (1, .int x1), (2, .long x2)]) rfl ?_
  intro p e s m args below meth c hsz C0 _ hP hD ls hl
  have C1 := C0
  obtain ⟨hx, hb, hr, hml, hown, hts, hlocks, hN, hK, hA⟩ := C1
  have hS : va_S (va_A (wM q cI cJ cZ zn zm zj zf zr zw zs zfr zto zk zt za zb zq zl zv zo zu zov ztu zsh zle zmo zc zlo zhi) sz) s.heap s.heap [] := va_S.rf
  generalize va_A (wM q cI cJ cZ zn zm zj zf zr zw zs zfr zto zk zt za zb zq zl zv zo zu zov ztu zsh zle zmo zc zlo zhi) sz = A at C0 hD hA hS ⊢
  show W p l e rmX8_goesOver s m args below meth c s.heap [] 0 0 (QI below args s A (dC, dI) (ty3 cI cJ cZ) RES (wM q cI cJ cZ zn zm zj zf zr zw zs zfr zto zk zt za zb zq zl zv zo zu zov ztu zsh zle zmo zc zlo zhi)) (F0 m 0 ls [])
  unfold mX8_goesOver at hres
  refine lv_lload_n hx hb dX8_goesOver_0 rfl (lv_at hl 2 rfl) ?_
  refine lv_aload_n hx hb dX8_goesOver_1 rfl (lv_at hl 0 rfl) ?_
  refine lv_iload_n hx hb dX8_goesOver_2 rfl (lv_at hl 1 rfl) ?_
  obtain ⟨u1, hu1, hres⟩ := mi_b hres
  refine call_L C0 (run_V C0 (rest := [.long x2]) (kX8_low l dC dI q cI cJ cZ zn zm zj zf zr zw zs zfr zto zk zt za zb zq zl zv zo zu zov ztu zsh zle zmo zc zlo zhi  x1 u1 hu1 _) (cwV 1 hts gX8_goesOver_X8_low rfl rfl rfl (by decide +kernel) ⟨by decide, by decide⟩) hP hD (ci := 8) (q0 := 0) rfl rfl rfl hl.1 rfl (Nat.le_of_ble_eq_true rfl) dX8_goesOver_3) hD hS (fun H locs hP hD hS => ?_)
  refine lv_aload_n hx hb dX8_goesOver_6 rfl (lv_at hl 0 rfl) ?_
  refine lv_iload_n hx hb dX8_goesOver_7 rfl (lv_at hl 1 rfl) ?_
  obtain ⟨u2, hu2, hres⟩ := mi_b hres
  refine call_L C0 (run_V C0 (rest := [.long u1, .long x2]) (kX8_high l dC dI q cI cJ cZ zn zm zj zf zr zw zs zfr zto zk zt za zb zq zl zv zo zu zov ztu zsh zle zmo zc zlo zhi  x1 u2 hu2 _) (cwV 1 hts gX8_goesOver_X8_high rfl rfl rfl (by decide +kernel) ⟨by decide, by decide⟩) hP hD (ci := 8) (q0 := 0) rfl rfl rfl hl.1 rfl (Nat.le_of_ble_eq_true rfl) dX8_goesOver_8) hD hS (fun H locs hP hD hS => ?_)
  obtain ⟨u3, hu3, hres⟩ := mi_b hres
  refine call_I C0 (run_S C0 (rest := []) (kX8_in l (dC, dI) (ty3 cI cJ cZ) (wM q cI cJ cZ zn zm zj zf zr zw zs zfr zto zk zt za zb zq zl zv zo zu zov ztu zsh zle zmo zc zlo zhi) x2 u1 u2 u3 hu3 _) (va_cwS 3 hts gX8_goesOver_X8_in rfl rfl rfl (by decide +kernel) ⟨by decide, by decide⟩) hP hD rfl hl.1 rfl (Nat.le_of_ble_eq_true rfl) dX8_goesOver_11) hD hS (fun H locs hP hD hS => ?_)
  refine lv_if_ne (tgt := 21) hx hb dX8_goesOver_14 (by decide) (fun c_4 => ?_) (fun c_4 => ?_)
  · replace hres := mi_n c_4 hres
    refine lv_iconst (v := (0 : Int32)) hx hb dX8_goesOver_21 (by decide) ?_
    obtain rfl := Option.some.inj hres
    exact ret_I (r := (0 : Int32)) C0 rfl hP hD hS dX8_goesOver_22
  · replace hres := mi_p c_4 hres
    refine lv_iconst (v := (1 : Int32)) hx hb dX8_goesOver_17 (by decide) ?_
    refine lv_goto (tgt := 22) hx hb dX8_goesOver_18 (by decide) ?_
    obtain rfl := Option.some.inj hres
    exact ret_I (r := (1 : Int32)) C0 rfl hP hD hS dX8_goesOver_22
/-! ### SumsOverModel.belowOf(I)Z -/
set_option maxRecDepth 20000 in
theorem hwX8_belowOf_RX8 : ∀ w ∈ u_ws RX8 TX8 26, w ∈ wsX8_belowOf := by decide +kernel
theorem mwX8_belowOf_0 : (.fieldLink RX8 41 "SumsOverModel" "values" "[J" : Cond) ∈ wsX8_belowOf := by decide +kernel
theorem mwX8_belowOf_1 : (.fieldLink RX8 29 "SumsOverModel" "a" "[I" : Cond) ∈ wsX8_belowOf := by decide +kernel
theorem mwX8_belowOf_2 : (.fieldLink RX8 32 "SumsOverModel" "b" "[I" : Cond) ∈ wsX8_belowOf := by decide +kernel
theorem mwX8_belowOf_3 : (.fieldLink RX8 13 "SumsOverModel" "isSigned" "[Z" : Cond) ∈ wsX8_belowOf := by decide +kernel
theorem mwX8_belowOf_4 : (.fieldLink RX8 9 "SumsOverModel" "width" "[I" : Cond) ∈ wsX8_belowOf := by decide +kernel
theorem mwX8_belowOf_5 : (.methodLink RX8 124 Lib.Math.max.name : Cond) ∈ wsX8_belowOf := by decide +kernel
theorem mwX8_belowOf_6 : (.static Lib.Math.max.name : Cond) ∈ wsX8_belowOf := by decide +kernel
theorem mwX8_belowOf_7 : (.initialized "java/lang/Math" : Cond) ∈ wsX8_belowOf := by decide +kernel
theorem mwX8_belowOf_8 : (.code Lib.Math.max.name Lib.Math.max.code 2 (some .int) : Cond) ∈ wsX8_belowOf := by decide +kernel
def rmX8_belowOf : Room := { frames := 1, cells := 0, slots := 0, locals := 25 }
set_option maxHeartbeats 4000000 in
set_option maxRecDepth 100000 in
theorem kX8_belowOf (l : Launch) (dC : Nat → ClassId) (dI : Nat → Nat → Nat) (q : Nat → Nat) (cI cJ cZ : ClassId) (zn : Int32) (zm : Int32) (zj : Int32) (zf : Int32) (zr : Int32) (zw : Nat → Int32) (zs : Nat → Int32) (zfr : Nat → Int32) (zto : Nat → Int32) (zk : Nat → Int32) (zt : Nat → Int32) (za : Nat → Int32) (zb : Nat → Int32) (zq : Nat → Int32) (zl : Nat → Int32) (zv : Nat → Int64) (zo : Nat → Int32) (zu : Nat → Int32) (zov : Nat → Int32) (ztu : Nat → Int32) (zsh : Nat → Int32) (zle : Nat → Int64) (zmo : Nat → Int64) (zc : Nat → Int32) (zlo : Nat → Int64) (zhi : Nat → Int64) (x1 : Int32) (RES : Int32) (hres : mX8_belowOf zw zs za zb zv x1 = some RES) : CtI l yX8_belowOf wsX8_belowOf rmX8_belowOf (dC, dI) (ty3 cI cJ cZ) (wM q cI cJ cZ zn zm zj zf zr zw zs zfr zto zk zt za zb zq zl zv zo zu zov ztu zsh zle zmo zc zlo zhi) [.ref (q 0), .int x1] RES (wM q cI cJ cZ zn zm zj zf zr zw zs zfr zto zk zt za zb zq zl zv zo zu zov ztu zsh zle zmo zc zlo zhi) := by
  intro sz
  refine ct_entry (cc := cX8_belowOf) (maxL := 8) (ret := some .boolean) (own := RX8) (by decide) rfl rfl (Nat.le_of_ble_eq_true rfl) (ll := [(0, .ref (q 0)), (1, .int x1)]) rfl ?_
  intro p e s m args below meth c hsz C0 _ hP hD ls hl
  have C1 := C0
  obtain ⟨hx, hb, hr, hml, hown, hts, hlocks, hN, hK, hA⟩ := C1
  have hS : va_S (va_A (wM q cI cJ cZ zn zm zj zf zr zw zs zfr zto zk zt za zb zq zl zv zo zu zov ztu zsh zle zmo zc zlo zhi) sz) s.heap s.heap [] := va_S.rf
  generalize va_A (wM q cI cJ cZ zn zm zj zf zr zw zs zfr zto zk zt za zb zq zl zv zo zu zov ztu zsh zle zmo zc zlo zhi) sz = A at C0 hD hA hS ⊢
  show W p l e rmX8_belowOf s m args below meth c s.heap [] 0 0 (QI below args s A (dC, dI) (ty3 cI cJ cZ) RES (wM q cI cJ cZ zn zm zj zf zr zw zs zfr zto zk zt za zb zq zl zv zo zu zov ztu zsh zle zmo zc zlo zhi)) (F0 m 0 ls [])
  unfold mX8_belowOf at hres
  refine lv_aload_n hx hb dX8_belowOf_0 rfl (lv_at hl 0 rfl) ?_
  refine va_get (D := (dC, dI)) (ci := 8) (v := .ref (q 11)) (C := RX8) (T := TX8) (N := 26) hx hb hts hwX8_belowOf_RX8 hown hK hP 0 rfl rfl 13 (by decide) (hts _ mwX8_belowOf_0) (fun _ h9 => h9) rfl dX8_belowOf_1 ?_
  refine lv_aload_n hx hb dX8_belowOf_4 rfl (lv_at hl 0 rfl) ?_
  refine va_get (D := (dC, dI)) (ci := 8) (v := .ref (q 7)) (C := RX8) (T := TX8) (N := 26) hx hb hts hwX8_belowOf_RX8 hown hK hP 0 rfl rfl 6 (by decide) (hts _ mwX8_belowOf_1) (fun _ h9 => h9) rfl dX8_belowOf_5 ?_
  refine lv_iload_n hx hb dX8_belowOf_8 rfl (lv_at hl 1 rfl) ?_
  obtain ⟨g_1, hres⟩ := mi_g hres
  refine va_iald (D := (dC, dI)) (cl := vwCl) hx hb hK hP 7 0 rfl rfl g_1 dX8_belowOf_9 ?_
  obtain ⟨g_2, hres⟩ := mi_g hres
  refine va_lald (D := (dC, dI)) (cl := vwCl) hx hb hK hP 11 1 rfl rfl g_2 dX8_belowOf_10 ?_
  refine lv_lstore_n (lv' := [(2, .long (zv (Int32.toNatClampNeg (za (Int32.toNatClampNeg x1))))), (0, .ref (q 0)), (1, .int x1)]) hx hb dX8_belowOf_11 rfl hl (by decide) rfl (fun ls hl => ?_)
  refine lv_aload_n hx hb dX8_belowOf_12 rfl (lv_at hl 1 rfl) ?_
  refine va_get (D := (dC, dI)) (ci := 8) (v := .ref (q 11)) (C := RX8) (T := TX8) (N := 26) hx hb hts hwX8_belowOf_RX8 hown hK hP 0 rfl rfl 13 (by decide) (hts _ mwX8_belowOf_0) (fun _ h9 => h9) rfl dX8_belowOf_13 ?_
  refine lv_aload_n hx hb dX8_belowOf_16 rfl (lv_at hl 1 rfl) ?_
  refine va_get (D := (dC, dI)) (ci := 8) (v := .ref (q 8)) (C := RX8) (T := TX8) (N := 26) hx hb hts hwX8_belowOf_RX8 hown hK hP 0 rfl rfl 7 (by decide) (hts _ mwX8_belowOf_2) (fun _ h9 => h9) rfl dX8_belowOf_17 ?_
  refine lv_iload_n hx hb dX8_belowOf_20 rfl (lv_at hl 2 rfl) ?_
  refine va_iald (D := (dC, dI)) (cl := vwCl) hx hb hK hP 8 0 rfl rfl g_1 dX8_belowOf_21 ?_
  obtain ⟨g_3, hres⟩ := mi_g hres
  refine va_lald (D := (dC, dI)) (cl := vwCl) hx hb hK hP 11 1 rfl rfl g_3 dX8_belowOf_22 ?_
  refine lv_lstore (lv' := [(4, .long (zv (Int32.toNatClampNeg (zb (Int32.toNatClampNeg x1))))), (2, .long (zv (Int32.toNatClampNeg (za (Int32.toNatClampNeg x1))))), (0, .ref (q 0)), (1, .int x1)]) hx hb dX8_belowOf_23 hl (by decide) rfl (fun ls hl => ?_)
  refine lv_aload_n hx hb dX8_belowOf_25 rfl (lv_at hl 2 rfl) ?_
  refine va_get (D := (dC, dI)) (ci := 8) (v := .ref (q 2)) (C := RX8) (T := TX8) (N := 26) hx hb hts hwX8_belowOf_RX8 hown hK hP 0 rfl rfl 1 (by decide) (hts _ mwX8_belowOf_3) (fun _ h9 => h9) rfl dX8_belowOf_26 ?_
  refine lv_aload_n hx hb dX8_belowOf_29 rfl (lv_at hl 2 rfl) ?_
  refine va_get (D := (dC, dI)) (ci := 8) (v := .ref (q 7)) (C := RX8) (T := TX8) (N := 26) hx hb hts hwX8_belowOf_RX8 hown hK hP 0 rfl rfl 6 (by decide) (hts _ mwX8_belowOf_1) (fun _ h9 => h9) rfl dX8_belowOf_30 ?_
  refine lv_iload_n hx hb dX8_belowOf_33 rfl (lv_at hl 3 rfl) ?_
  refine va_iald (D := (dC, dI)) (cl := vwCl) hx hb hK hP 7 0 rfl rfl g_1 dX8_belowOf_34 ?_
  refine va_zald (D := (dC, dI)) (cl := vwCl) hx hb hK hP 2 2 rfl rfl g_2 dX8_belowOf_35 ?_
  refine lv_aload_n hx hb dX8_belowOf_36 rfl (lv_at hl 2 rfl) ?_
  refine va_get (D := (dC, dI)) (ci := 8) (v := .ref (q 2)) (C := RX8) (T := TX8) (N := 26) hx hb hts hwX8_belowOf_RX8 hown hK hP 0 rfl rfl 1 (by decide) (hts _ mwX8_belowOf_3) (fun _ h9 => h9) rfl dX8_belowOf_37 ?_
  refine lv_aload_n hx hb dX8_belowOf_40 rfl (lv_at hl 2 rfl) ?_
  refine va_get (D := (dC, dI)) (ci := 8) (v := .ref (q 8)) (C := RX8) (T := TX8) (N := 26) hx hb hts hwX8_belowOf_RX8 hown hK hP 0 rfl rfl 7 (by decide) (hts _ mwX8_belowOf_2) (fun _ h9 => h9) rfl dX8_belowOf_41 ?_
  refine lv_iload_n hx hb dX8_belowOf_44 rfl (lv_at hl 3 rfl) ?_
  refine va_iald (D := (dC, dI)) (cl := vwCl) hx hb hK hP 8 0 rfl rfl g_1 dX8_belowOf_45 ?_
  refine va_zald (D := (dC, dI)) (cl := vwCl) hx hb hK hP 2 2 rfl rfl g_3 dX8_belowOf_46 ?_
  refine lv_icmp_ne (tgt := 63) hx hb dX8_belowOf_47 (by decide) (fun c_4 => ?_) (fun c_4 => ?_)
  · replace hres := mi_n c_4 hres
    refine lv_lconst (v := (1 : Int64)) hx hb dX8_belowOf_63 (by decide) ?_
    refine lv_aload_n hx hb dX8_belowOf_64 rfl (lv_at hl 2 rfl) ?_
    refine va_get (D := (dC, dI)) (ci := 8) (v := .ref (q 1)) (C := RX8) (T := TX8) (N := 26) hx hb hts hwX8_belowOf_RX8 hown hK hP 0 rfl rfl 0 (by decide) (hts _ mwX8_belowOf_4) (fun _ h9 => h9) rfl dX8_belowOf_65 ?_
    refine lv_aload_n hx hb dX8_belowOf_68 rfl (lv_at hl 2 rfl) ?_
    refine va_get (D := (dC, dI)) (ci := 8) (v := .ref (q 7)) (C := RX8) (T := TX8) (N := 26) hx hb hts hwX8_belowOf_RX8 hown hK hP 0 rfl rfl 6 (by decide) (hts _ mwX8_belowOf_1) (fun _ h9 => h9) rfl dX8_belowOf_69 ?_
    refine lv_iload_n hx hb dX8_belowOf_72 rfl (lv_at hl 3 rfl) ?_
    refine va_iald (D := (dC, dI)) (cl := vwCl) hx hb hK hP 7 0 rfl rfl g_1 dX8_belowOf_73 ?_
    refine va_iald (D := (dC, dI)) (cl := vwCl) hx hb hK hP 1 0 rfl rfl g_2 dX8_belowOf_74 ?_
    refine lv_aload_n hx hb dX8_belowOf_75 rfl (lv_at hl 2 rfl) ?_
    refine va_get (D := (dC, dI)) (ci := 8) (v := .ref (q 1)) (C := RX8) (T := TX8) (N := 26) hx hb hts hwX8_belowOf_RX8 hown hK hP 0 rfl rfl 0 (by decide) (hts _ mwX8_belowOf_4) (fun _ h9 => h9) rfl dX8_belowOf_76 ?_
    refine lv_aload_n hx hb dX8_belowOf_79 rfl (lv_at hl 2 rfl) ?_
    refine va_get (D := (dC, dI)) (ci := 8) (v := .ref (q 8)) (C := RX8) (T := TX8) (N := 26) hx hb hts hwX8_belowOf_RX8 hown hK hP 0 rfl rfl 7 (by decide) (hts _ mwX8_belowOf_2) (fun _ h9 => h9) rfl dX8_belowOf_80 ?_
    refine lv_iload_n hx hb dX8_belowOf_83 rfl (lv_at hl 3 rfl) ?_
    refine va_iald (D := (dC, dI)) (cl := vwCl) hx hb hK hP 8 0 rfl rfl g_1 dX8_belowOf_84 ?_
    refine va_iald (D := (dC, dI)) (cl := vwCl) hx hb hK hP 1 0 rfl rfl g_3 dX8_belowOf_85 ?_
    refine va_mmax hx hb (hml.trans hl.1.symm) hown (hts _ mwX8_belowOf_5) (hts _ mwX8_belowOf_6) (hts _ mwX8_belowOf_7) (hts _ mwX8_belowOf_8) (Nat.le_of_ble_eq_true rfl) (Nat.le_of_ble_eq_true rfl) (Nat.zero_le _) (Nat.zero_le _) dX8_belowOf_86 ?_
    refine lv_lshl (v := ((1 : Int64) <<< (((if (zw (Int32.toNatClampNeg (za (Int32.toNatClampNeg x1)))) < (zw (Int32.toNatClampNeg (zb (Int32.toNatClampNeg x1)))) then (zw (Int32.toNatClampNeg (zb (Int32.toNatClampNeg x1)))) else (zw (Int32.toNatClampNeg (za (Int32.toNatClampNeg x1)))))).toInt64 &&& 63))) hx hb dX8_belowOf_89 rfl ?_
    refine lv_lstore (lv' := [(6, .long ((1 : Int64) <<< (((if (zw (Int32.toNatClampNeg (za (Int32.toNatClampNeg x1)))) < (zw (Int32.toNatClampNeg (zb (Int32.toNatClampNeg x1)))) then (zw (Int32.toNatClampNeg (zb (Int32.toNatClampNeg x1)))) else (zw (Int32.toNatClampNeg (za (Int32.toNatClampNeg x1)))))).toInt64 &&& 63))), (4, .long (zv (Int32.toNatClampNeg (zb (Int32.toNatClampNeg x1))))), (2, .long (zv (Int32.toNatClampNeg (za (Int32.toNatClampNeg x1))))), (0, .ref (q 0)), (1, .int x1)]) hx hb dX8_belowOf_90 hl (by decide) rfl (fun ls hl => ?_)
    refine lv_lload_n hx hb dX8_belowOf_92 rfl (lv_at hl 2 rfl) ?_
    refine lv_lload hx hb dX8_belowOf_93 (lv_at hl 0 rfl) ?_
    obtain ⟨u5, hu5, hres⟩ := mi_b hres
    refine call_L C0 (run_S C0 (rest := []) (kX8_rest l (dC, dI) (ty3 cI cJ cZ) (wM q cI cJ cZ zn zm zj zf zr zw zs zfr zto zk zt za zb zq zl zv zo zu zov ztu zsh zle zmo zc zlo zhi) (zv (Int32.toNatClampNeg (za (Int32.toNatClampNeg x1)))) ((1 : Int64) <<< (((if (zw (Int32.toNatClampNeg (za (Int32.toNatClampNeg x1)))) < (zw (Int32.toNatClampNeg (zb (Int32.toNatClampNeg x1)))) then (zw (Int32.toNatClampNeg (zb (Int32.toNatClampNeg x1)))) else (zw (Int32.toNatClampNeg (za (Int32.toNatClampNeg x1)))))).toInt64 &&& 63)) u5 hu5 _) (va_cwS 2 hts gX8_belowOf_X8_rest rfl rfl rfl (by decide +kernel) ⟨by decide, by decide⟩) hP hD rfl hl.1 rfl (Nat.le_of_ble_eq_true rfl) dX8_belowOf_95) hD hS (fun H locs hP hD hS => ?_)
    refine lv_lload hx hb dX8_belowOf_98 (lv_at hl 1 rfl) ?_
    refine lv_lload hx hb dX8_belowOf_100 (lv_at hl 0 rfl) ?_
    obtain ⟨u6, hu6, hres⟩ := mi_b hres
    refine call_L C0 (run_S C0 (rest := [.long u5]) (kX8_rest l (dC, dI) (ty3 cI cJ cZ) (wM q cI cJ cZ zn zm zj zf zr zw zs zfr zto zk zt za zb zq zl zv zo zu zov ztu zsh zle zmo zc zlo zhi) (zv (Int32.toNatClampNeg (zb (Int32.toNatClampNeg x1)))) ((1 : Int64) <<< (((if (zw (Int32.toNatClampNeg (za (Int32.toNatClampNeg x1)))) < (zw (Int32.toNatClampNeg (zb (Int32.toNatClampNeg x1)))) then (zw (Int32.toNatClampNeg (zb (Int32.toNatClampNeg x1)))) else (zw (Int32.toNatClampNeg (za (Int32.toNatClampNeg x1)))))).toInt64 &&& 63)) u6 hu6 _) (va_cwS 2 hts gX8_belowOf_X8_rest rfl rfl rfl (by decide +kernel) ⟨by decide, by decide⟩) hP hD rfl hl.1 rfl (Nat.le_of_ble_eq_true rfl) dX8_belowOf_102) hD hS (fun H locs hP hD hS => ?_)
    refine W.lcmp hx hb dX8_belowOf_105 ?_
    refine lv_if_ge (tgt := 113) hx hb dX8_belowOf_106 (by decide) (fun c_7 => ?_) (fun c_7 => ?_)
    · rw [lg_cmp_ge] at c_7
      replace hres := mi_p c_7 hres
      refine lv_iconst (v := (0 : Int32)) hx hb dX8_belowOf_113 (by decide) ?_
      obtain rfl := Option.some.inj hres
      exact ret_I (r := (0 : Int32)) C0 rfl hP hD hS dX8_belowOf_114
    · rw [lg_cmp_ge] at c_7
      replace hres := mi_n c_7 hres
      refine lv_iconst (v := (1 : Int32)) hx hb dX8_belowOf_109 (by decide) ?_
      refine lv_goto (tgt := 114) hx hb dX8_belowOf_110 (by decide) ?_
      obtain rfl := Option.some.inj hres
      exact ret_I (r := (1 : Int32)) C0 rfl hP hD hS dX8_belowOf_114
  · replace hres := mi_p c_4 hres
    refine lv_lload_n hx hb dX8_belowOf_50 rfl (lv_at hl 1 rfl) ?_
    refine lv_lload hx hb dX8_belowOf_51 (lv_at hl 0 rfl) ?_
    refine W.lcmp hx hb dX8_belowOf_53 ?_
    refine lv_if_ge (tgt := 61) hx hb dX8_belowOf_54 (by decide) (fun c_8 => ?_) (fun c_8 => ?_)
    · rw [lg_cmp_ge] at c_8
      replace hres := mi_p c_8 hres
      refine lv_iconst (v := (0 : Int32)) hx hb dX8_belowOf_61 (by decide) ?_
      obtain rfl := Option.some.inj hres
      exact ret_I (r := (0 : Int32)) C0 rfl hP hD hS dX8_belowOf_62
    · rw [lg_cmp_ge] at c_8
      replace hres := mi_n c_8 hres
      refine lv_iconst (v := (1 : Int32)) hx hb dX8_belowOf_57 (by decide) ?_
      refine lv_goto (tgt := 62) hx hb dX8_belowOf_58 (by decide) ?_
      obtain rfl := Option.some.inj hres
      exact ret_I (r := (1 : Int32)) C0 rfl hP hD hS dX8_belowOf_62
/-! ### SumsOverModel.valueOf(I)J -/
set_option maxRecDepth 20000 in
theorem hwX8_valueOf_RX8 : ∀ w ∈ u_ws RX8 TX8 26, w ∈ wsX8_valueOf := by decide +kernel
theorem mwX8_valueOf_0 : (.fieldLink RX8 23 "SumsOverModel" "kind" "[I" : Cond) ∈ wsX8_valueOf := by decide +kernel
theorem mwX8_valueOf_1 : (.fieldLink RX8 32 "SumsOverModel" "b" "[I" : Cond) ∈ wsX8_valueOf := by decide +kernel
theorem mwX8_valueOf_2 : (.fieldLink RX8 41 "SumsOverModel" "values" "[J" : Cond) ∈ wsX8_valueOf := by decide +kernel
theorem mwX8_valueOf_3 : (.fieldLink RX8 29 "SumsOverModel" "a" "[I" : Cond) ∈ wsX8_valueOf := by decide +kernel
theorem mwX8_valueOf_4 : (.methodLink RX8 130 Lib.MathLoose.min_long.x : Cond) ∈ wsX8_valueOf := by decide +kernel
theorem mwX8_valueOf_5 : (.static Lib.MathLoose.min_long.x : Cond) ∈ wsX8_valueOf := by decide +kernel
theorem mwX8_valueOf_6 : (.initialized "java/lang/Math" : Cond) ∈ wsX8_valueOf := by decide +kernel
theorem mwX8_valueOf_7 : (.code Lib.MathLoose.min_long.x Lib.MathLoose.min_long.code 4 (some .long) : Cond) ∈ wsX8_valueOf := by decide +kernel
def rmX8_valueOf : Room := { frames := 2, cells := 0, slots := 0, locals := 52 }
set_option maxHeartbeats 4000000 in
set_option maxRecDepth 100000 in
theorem kX8_valueOf (l : Launch) (dC : Nat → ClassId) (dI : Nat → Nat → Nat) (q : Nat → Nat) (cI cJ cZ : ClassId) (zn : Int32) (zm : Int32) (zj : Int32) (zf : Int32) (zr : Int32) (zw : Nat → Int32) (zs : Nat → Int32) (zfr : Nat → Int32) (zto : Nat → Int32) (zk : Nat → Int32) (zt : Nat → Int32) (za : Nat → Int32) (zb : Nat → Int32) (zq : Nat → Int32) (zl : Nat → Int32) (zv : Nat → Int64) (zo : Nat → Int32) (zu : Nat → Int32) (zov : Nat → Int32) (ztu : Nat → Int32) (zsh : Nat → Int32) (zle : Nat → Int64) (zmo : Nat → Int64) (zc : Nat → Int32) (zlo : Nat → Int64) (zhi : Nat → Int64) (x1 : Int32) (RES : Int64) (hres : mX8_valueOf zw zs zk za zb zv x1 = some RES) : CtL l yX8_valueOf wsX8_valueOf rmX8_valueOf (dC, dI) (ty3 cI cJ cZ) (wM q cI cJ cZ zn zm zj zf zr zw zs zfr zto zk zt za zb zq zl zv zo zu zov ztu zsh zle zmo zc zlo zhi) [.ref (q 0), .int x1] RES (wM q cI cJ cZ zn zm zj zf zr zw zs zfr zto zk zt za zb zq zl zv zo zu zov ztu zsh zle zmo zc zlo zhi) := by
  intro sz
  refine ct_entry (cc := cX8_valueOf) (maxL := 2) (ret := some .long) (own := RX8) (by decide) rfl rfl (Nat.le_of_ble_eq_true rfl) (ll := [(0, .ref (q 0)), (1, .int x1)]) rfl ?_
  intro p e s m args below meth c hsz C0 _ hP hD ls hl
  have C1 := C0
  obtain ⟨hx, hb, hr, hml, hown, hts, hlocks, hN, hK, hA⟩ := C1
  have hS : va_S (va_A (wM q cI cJ cZ zn zm zj zf zr zw zs zfr zto zk zt za zb zq zl zv zo zu zov ztu zsh zle zmo zc zlo zhi) sz) s.heap s.heap [] := va_S.rf
  generalize va_A (wM q cI cJ cZ zn zm zj zf zr zw zs zfr zto zk zt za zb zq zl zv zo zu zov ztu zsh zle zmo zc zlo zhi) sz = A at C0 hD hA hS ⊢
  show W p l e rmX8_valueOf s m args below meth c s.heap [] 0 0 (QL below args s A (dC, dI) (ty3 cI cJ cZ) RES (wM q cI cJ cZ zn zm zj zf zr zw zs zfr zto zk zt za zb zq zl zv zo zu zov ztu zsh zle zmo zc zlo zhi)) (F0 m 0 ls [])
  unfold mX8_valueOf at hres
  refine lv_aload_n hx hb dX8_valueOf_0 rfl (lv_at hl 0 rfl) ?_
  refine va_get (D := (dC, dI)) (ci := 8) (v := .ref (q 5)) (C := RX8) (T := TX8) (N := 26) hx hb hts hwX8_valueOf_RX8 hown hK hP 0 rfl rfl 4 (by decide) (hts _ mwX8_valueOf_0) (fun _ h9 => h9) rfl dX8_valueOf_1 ?_
  refine lv_iload_n hx hb dX8_valueOf_4 rfl (lv_at hl 1 rfl) ?_
  obtain ⟨g_1, hres⟩ := mi_g hres
  refine va_iald (D := (dC, dI)) (cl := vwCl) hx hb hK hP 5 0 rfl rfl g_1 dX8_valueOf_5 ?_
  by_cases c_2 : (zk (Int32.toNatClampNeg x1)) = (0 : Int32)
  · replace hres := mi_p c_2 hres
    refine sw_tab (tgt := 48) hx hb dX8_valueOf_6 (by decide) (by have h9 := c_2 <;> (rw [h9]; decide)) ?_
    refine lv_aload_n hx hb dX8_valueOf_48 rfl (lv_at hl 0 rfl) ?_
    refine va_get (D := (dC, dI)) (ci := 8) (v := .ref (q 8)) (C := RX8) (T := TX8) (N := 26) hx hb hts hwX8_valueOf_RX8 hown hK hP 0 rfl rfl 7 (by decide) (hts _ mwX8_valueOf_1) (fun _ h9 => h9) rfl dX8_valueOf_49 ?_
    refine lv_iload_n hx hb dX8_valueOf_52 rfl (lv_at hl 1 rfl) ?_
    refine va_iald (D := (dC, dI)) (cl := vwCl) hx hb hK hP 8 0 rfl rfl g_1 dX8_valueOf_53 ?_
    refine lv_i2l (v := ((zb (Int32.toNatClampNeg x1))).toInt64) hx hb dX8_valueOf_54 rfl ?_
    obtain rfl := Option.some.inj hres
    exact ret_L (r := (((zb (Int32.toNatClampNeg x1))).toInt64)) C0 hP hD hS dX8_valueOf_55
  · replace hres := mi_n c_2 hres
    by_cases c_3 : (zk (Int32.toNatClampNeg x1)) = (1 : Int32)
    · replace hres := mi_p c_3 hres
      refine sw_tab (tgt := 56) hx hb dX8_valueOf_6 (by decide) (by have h9 := c_3 <;> (rw [h9]; decide)) ?_
      refine lv_aload_n hx hb dX8_valueOf_56 rfl (lv_at hl 0 rfl) ?_
      refine va_get (D := (dC, dI)) (ci := 8) (v := .ref (q 11)) (C := RX8) (T := TX8) (N := 26) hx hb hts hwX8_valueOf_RX8 hown hK hP 0 rfl rfl 13 (by decide) (hts _ mwX8_valueOf_2) (fun _ h9 => h9) rfl dX8_valueOf_57 ?_
      refine lv_aload_n hx hb dX8_valueOf_60 rfl (lv_at hl 0 rfl) ?_
      refine va_get (D := (dC, dI)) (ci := 8) (v := .ref (q 7)) (C := RX8) (T := TX8) (N := 26) hx hb hts hwX8_valueOf_RX8 hown hK hP 0 rfl rfl 6 (by decide) (hts _ mwX8_valueOf_3) (fun _ h9 => h9) rfl dX8_valueOf_61 ?_
      refine lv_iload_n hx hb dX8_valueOf_64 rfl (lv_at hl 1 rfl) ?_
      refine va_iald (D := (dC, dI)) (cl := vwCl) hx hb hK hP 7 0 rfl rfl g_1 dX8_valueOf_65 ?_
      obtain ⟨g_4, hres⟩ := mi_g hres
      refine va_lald (D := (dC, dI)) (cl := vwCl) hx hb hK hP 11 1 rfl rfl g_4 dX8_valueOf_66 ?_
      obtain rfl := Option.some.inj hres
      exact ret_L (r := (zv (Int32.toNatClampNeg (za (Int32.toNatClampNeg x1))))) C0 hP hD hS dX8_valueOf_67
    · replace hres := mi_n c_3 hres
      by_cases c_5 : (zk (Int32.toNatClampNeg x1)) = (2 : Int32)
      · replace hres := mi_p c_5 hres
        refine sw_tab (tgt := 68) hx hb dX8_valueOf_6 (by decide) (by have h9 := c_5 <;> (rw [h9]; decide)) ?_
        refine lv_aload_n hx hb dX8_valueOf_68 rfl (lv_at hl 0 rfl) ?_
        refine va_get (D := (dC, dI)) (ci := 8) (v := .ref (q 11)) (C := RX8) (T := TX8) (N := 26) hx hb hts hwX8_valueOf_RX8 hown hK hP 0 rfl rfl 13 (by decide) (hts _ mwX8_valueOf_2) (fun _ h9 => h9) rfl dX8_valueOf_69 ?_
        refine lv_aload_n hx hb dX8_valueOf_72 rfl (lv_at hl 0 rfl) ?_
        refine va_get (D := (dC, dI)) (ci := 8) (v := .ref (q 7)) (C := RX8) (T := TX8) (N := 26) hx hb hts hwX8_valueOf_RX8 hown hK hP 0 rfl rfl 6 (by decide) (hts _ mwX8_valueOf_3) (fun _ h9 => h9) rfl dX8_valueOf_73 ?_
        refine lv_iload_n hx hb dX8_valueOf_76 rfl (lv_at hl 1 rfl) ?_
        refine va_iald (D := (dC, dI)) (cl := vwCl) hx hb hK hP 7 0 rfl rfl g_1 dX8_valueOf_77 ?_
        obtain ⟨g_6, hres⟩ := mi_g hres
        refine va_lald (D := (dC, dI)) (cl := vwCl) hx hb hK hP 11 1 rfl rfl g_6 dX8_valueOf_78 ?_
        refine lv_aload_n hx hb dX8_valueOf_79 rfl (lv_at hl 0 rfl) ?_
        refine va_get (D := (dC, dI)) (ci := 8) (v := .ref (q 11)) (C := RX8) (T := TX8) (N := 26) hx hb hts hwX8_valueOf_RX8 hown hK hP 0 rfl rfl 13 (by decide) (hts _ mwX8_valueOf_2) (fun _ h9 => h9) rfl dX8_valueOf_80 ?_
        refine lv_aload_n hx hb dX8_valueOf_83 rfl (lv_at hl 0 rfl) ?_
        refine va_get (D := (dC, dI)) (ci := 8) (v := .ref (q 8)) (C := RX8) (T := TX8) (N := 26) hx hb hts hwX8_valueOf_RX8 hown hK hP 0 rfl rfl 7 (by decide) (hts _ mwX8_valueOf_1) (fun _ h9 => h9) rfl dX8_valueOf_84 ?_
        refine lv_iload_n hx hb dX8_valueOf_87 rfl (lv_at hl 1 rfl) ?_
        refine va_iald (D := (dC, dI)) (cl := vwCl) hx hb hK hP 8 0 rfl rfl g_1 dX8_valueOf_88 ?_
        obtain ⟨g_7, hres⟩ := mi_g hres
        refine va_lald (D := (dC, dI)) (cl := vwCl) hx hb hK hP 11 1 rfl rfl g_7 dX8_valueOf_89 ?_
        refine lv_ladd hx hb dX8_valueOf_90 ?_
        obtain rfl := Option.some.inj hres
        exact ret_L (r := ((zv (Int32.toNatClampNeg (za (Int32.toNatClampNeg x1)))) + (zv (Int32.toNatClampNeg (zb (Int32.toNatClampNeg x1)))))) C0 hP hD hS dX8_valueOf_91
      · replace hres := mi_n c_5 hres
        by_cases c_8 : (zk (Int32.toNatClampNeg x1)) = (3 : Int32)
        · replace hres := mi_p c_8 hres
          refine sw_tab (tgt := 92) hx hb dX8_valueOf_6 (by decide) (by have h9 := c_8 <;> (rw [h9]; decide)) ?_
          refine lv_aload_n hx hb dX8_valueOf_92 rfl (lv_at hl 0 rfl) ?_
          refine va_get (D := (dC, dI)) (ci := 8) (v := .ref (q 11)) (C := RX8) (T := TX8) (N := 26) hx hb hts hwX8_valueOf_RX8 hown hK hP 0 rfl rfl 13 (by decide) (hts _ mwX8_valueOf_2) (fun _ h9 => h9) rfl dX8_valueOf_93 ?_
          refine lv_aload_n hx hb dX8_valueOf_96 rfl (lv_at hl 0 rfl) ?_
          refine va_get (D := (dC, dI)) (ci := 8) (v := .ref (q 7)) (C := RX8) (T := TX8) (N := 26) hx hb hts hwX8_valueOf_RX8 hown hK hP 0 rfl rfl 6 (by decide) (hts _ mwX8_valueOf_3) (fun _ h9 => h9) rfl dX8_valueOf_97 ?_
          refine lv_iload_n hx hb dX8_valueOf_100 rfl (lv_at hl 1 rfl) ?_
          refine va_iald (D := (dC, dI)) (cl := vwCl) hx hb hK hP 7 0 rfl rfl g_1 dX8_valueOf_101 ?_
          obtain ⟨g_9, hres⟩ := mi_g hres
          refine va_lald (D := (dC, dI)) (cl := vwCl) hx hb hK hP 11 1 rfl rfl g_9 dX8_valueOf_102 ?_
          refine lv_aload_n hx hb dX8_valueOf_103 rfl (lv_at hl 0 rfl) ?_
          refine va_get (D := (dC, dI)) (ci := 8) (v := .ref (q 11)) (C := RX8) (T := TX8) (N := 26) hx hb hts hwX8_valueOf_RX8 hown hK hP 0 rfl rfl 13 (by decide) (hts _ mwX8_valueOf_2) (fun _ h9 => h9) rfl dX8_valueOf_104 ?_
          refine lv_aload_n hx hb dX8_valueOf_107 rfl (lv_at hl 0 rfl) ?_
          refine va_get (D := (dC, dI)) (ci := 8) (v := .ref (q 8)) (C := RX8) (T := TX8) (N := 26) hx hb hts hwX8_valueOf_RX8 hown hK hP 0 rfl rfl 7 (by decide) (hts _ mwX8_valueOf_1) (fun _ h9 => h9) rfl dX8_valueOf_108 ?_
          refine lv_iload_n hx hb dX8_valueOf_111 rfl (lv_at hl 1 rfl) ?_
          refine va_iald (D := (dC, dI)) (cl := vwCl) hx hb hK hP 8 0 rfl rfl g_1 dX8_valueOf_112 ?_
          obtain ⟨g_10, hres⟩ := mi_g hres
          refine va_lald (D := (dC, dI)) (cl := vwCl) hx hb hK hP 11 1 rfl rfl g_10 dX8_valueOf_113 ?_
          refine lv_lsub hx hb dX8_valueOf_114 ?_
          obtain rfl := Option.some.inj hres
          exact ret_L (r := ((zv (Int32.toNatClampNeg (za (Int32.toNatClampNeg x1)))) - (zv (Int32.toNatClampNeg (zb (Int32.toNatClampNeg x1)))))) C0 hP hD hS dX8_valueOf_115
        · replace hres := mi_n c_8 hres
          by_cases c_11 : (zk (Int32.toNatClampNeg x1)) = (4 : Int32)
          · replace hres := mi_p c_11 hres
            refine sw_tab (tgt := 116) hx hb dX8_valueOf_6 (by decide) (by have h9 := c_11 <;> (rw [h9]; decide)) ?_
            refine lv_aload_n hx hb dX8_valueOf_116 rfl (lv_at hl 0 rfl) ?_
            refine va_get (D := (dC, dI)) (ci := 8) (v := .ref (q 11)) (C := RX8) (T := TX8) (N := 26) hx hb hts hwX8_valueOf_RX8 hown hK hP 0 rfl rfl 13 (by decide) (hts _ mwX8_valueOf_2) (fun _ h9 => h9) rfl dX8_valueOf_117 ?_
            refine lv_aload_n hx hb dX8_valueOf_120 rfl (lv_at hl 0 rfl) ?_
            refine va_get (D := (dC, dI)) (ci := 8) (v := .ref (q 7)) (C := RX8) (T := TX8) (N := 26) hx hb hts hwX8_valueOf_RX8 hown hK hP 0 rfl rfl 6 (by decide) (hts _ mwX8_valueOf_3) (fun _ h9 => h9) rfl dX8_valueOf_121 ?_
            refine lv_iload_n hx hb dX8_valueOf_124 rfl (lv_at hl 1 rfl) ?_
            refine va_iald (D := (dC, dI)) (cl := vwCl) hx hb hK hP 7 0 rfl rfl g_1 dX8_valueOf_125 ?_
            obtain ⟨g_12, hres⟩ := mi_g hres
            refine va_lald (D := (dC, dI)) (cl := vwCl) hx hb hK hP 11 1 rfl rfl g_12 dX8_valueOf_126 ?_
            refine lv_aload_n hx hb dX8_valueOf_127 rfl (lv_at hl 0 rfl) ?_
            refine va_get (D := (dC, dI)) (ci := 8) (v := .ref (q 11)) (C := RX8) (T := TX8) (N := 26) hx hb hts hwX8_valueOf_RX8 hown hK hP 0 rfl rfl 13 (by decide) (hts _ mwX8_valueOf_2) (fun _ h9 => h9) rfl dX8_valueOf_128 ?_
            refine lv_aload_n hx hb dX8_valueOf_131 rfl (lv_at hl 0 rfl) ?_
            refine va_get (D := (dC, dI)) (ci := 8) (v := .ref (q 8)) (C := RX8) (T := TX8) (N := 26) hx hb hts hwX8_valueOf_RX8 hown hK hP 0 rfl rfl 7 (by decide) (hts _ mwX8_valueOf_1) (fun _ h9 => h9) rfl dX8_valueOf_132 ?_
            refine lv_iload_n hx hb dX8_valueOf_135 rfl (lv_at hl 1 rfl) ?_
            refine va_iald (D := (dC, dI)) (cl := vwCl) hx hb hK hP 8 0 rfl rfl g_1 dX8_valueOf_136 ?_
            obtain ⟨g_13, hres⟩ := mi_g hres
            refine va_lald (D := (dC, dI)) (cl := vwCl) hx hb hK hP 11 1 rfl rfl g_13 dX8_valueOf_137 ?_
            refine lv_lmul hx hb dX8_valueOf_138 ?_
            obtain rfl := Option.some.inj hres
            exact ret_L (r := ((zv (Int32.toNatClampNeg (za (Int32.toNatClampNeg x1)))) * (zv (Int32.toNatClampNeg (zb (Int32.toNatClampNeg x1)))))) C0 hP hD hS dX8_valueOf_139
          · replace hres := mi_n c_11 hres
            by_cases c_14 : (zk (Int32.toNatClampNeg x1)) = (5 : Int32)
            · replace hres := mi_p c_14 hres
              refine sw_tab (tgt := 140) hx hb dX8_valueOf_6 (by decide) (by have h9 := c_14 <;> (rw [h9]; decide)) ?_
              refine lv_aload_n hx hb dX8_valueOf_140 rfl (lv_at hl 0 rfl) ?_
              refine va_get (D := (dC, dI)) (ci := 8) (v := .ref (q 11)) (C := RX8) (T := TX8) (N := 26) hx hb hts hwX8_valueOf_RX8 hown hK hP 0 rfl rfl 13 (by decide) (hts _ mwX8_valueOf_2) (fun _ h9 => h9) rfl dX8_valueOf_141 ?_
              refine lv_aload_n hx hb dX8_valueOf_144 rfl (lv_at hl 0 rfl) ?_
              refine va_get (D := (dC, dI)) (ci := 8) (v := .ref (q 7)) (C := RX8) (T := TX8) (N := 26) hx hb hts hwX8_valueOf_RX8 hown hK hP 0 rfl rfl 6 (by decide) (hts _ mwX8_valueOf_3) (fun _ h9 => h9) rfl dX8_valueOf_145 ?_
              refine lv_iload_n hx hb dX8_valueOf_148 rfl (lv_at hl 1 rfl) ?_
              refine va_iald (D := (dC, dI)) (cl := vwCl) hx hb hK hP 7 0 rfl rfl g_1 dX8_valueOf_149 ?_
              obtain ⟨g_15, hres⟩ := mi_g hres
              refine va_lald (D := (dC, dI)) (cl := vwCl) hx hb hK hP 11 1 rfl rfl g_15 dX8_valueOf_150 ?_
              refine lv_lconst (v := (1 : Int64)) hx hb dX8_valueOf_151 (by decide) ?_
              refine lv_aload_n hx hb dX8_valueOf_152 rfl (lv_at hl 0 rfl) ?_
              refine va_get (D := (dC, dI)) (ci := 8) (v := .ref (q 8)) (C := RX8) (T := TX8) (N := 26) hx hb hts hwX8_valueOf_RX8 hown hK hP 0 rfl rfl 7 (by decide) (hts _ mwX8_valueOf_1) (fun _ h9 => h9) rfl dX8_valueOf_153 ?_
              refine lv_iload_n hx hb dX8_valueOf_156 rfl (lv_at hl 1 rfl) ?_
              refine va_iald (D := (dC, dI)) (cl := vwCl) hx hb hK hP 8 0 rfl rfl g_1 dX8_valueOf_157 ?_
              refine lv_lshl (v := ((1 : Int64) <<< (((zb (Int32.toNatClampNeg x1))).toInt64 &&& 63))) hx hb dX8_valueOf_158 rfl ?_
              refine lv_lmul hx hb dX8_valueOf_159 ?_
              obtain rfl := Option.some.inj hres
              exact ret_L (r := ((zv (Int32.toNatClampNeg (za (Int32.toNatClampNeg x1)))) * ((1 : Int64) <<< (((zb (Int32.toNatClampNeg x1))).toInt64 &&& 63)))) C0 hP hD hS dX8_valueOf_160
            · replace hres := mi_n c_14 hres
              by_cases c_16 : (zk (Int32.toNatClampNeg x1)) = (6 : Int32)
              · replace hres := mi_p c_16 hres
                refine sw_tab (tgt := 161) hx hb dX8_valueOf_6 (by decide) (by have h9 := c_16 <;> (rw [h9]; decide)) ?_
                refine lv_aload_n hx hb dX8_valueOf_161 rfl (lv_at hl 0 rfl) ?_
                refine va_get (D := (dC, dI)) (ci := 8) (v := .ref (q 11)) (C := RX8) (T := TX8) (N := 26) hx hb hts hwX8_valueOf_RX8 hown hK hP 0 rfl rfl 13 (by decide) (hts _ mwX8_valueOf_2) (fun _ h9 => h9) rfl dX8_valueOf_162 ?_
                refine lv_aload_n hx hb dX8_valueOf_165 rfl (lv_at hl 0 rfl) ?_
                refine va_get (D := (dC, dI)) (ci := 8) (v := .ref (q 7)) (C := RX8) (T := TX8) (N := 26) hx hb hts hwX8_valueOf_RX8 hown hK hP 0 rfl rfl 6 (by decide) (hts _ mwX8_valueOf_3) (fun _ h9 => h9) rfl dX8_valueOf_166 ?_
                refine lv_iload_n hx hb dX8_valueOf_169 rfl (lv_at hl 1 rfl) ?_
                refine va_iald (D := (dC, dI)) (cl := vwCl) hx hb hK hP 7 0 rfl rfl g_1 dX8_valueOf_170 ?_
                obtain ⟨g_17, hres⟩ := mi_g hres
                refine va_lald (D := (dC, dI)) (cl := vwCl) hx hb hK hP 11 1 rfl rfl g_17 dX8_valueOf_171 ?_
                refine lv_aload_n hx hb dX8_valueOf_172 rfl (lv_at hl 0 rfl) ?_
                refine va_get (D := (dC, dI)) (ci := 8) (v := .ref (q 11)) (C := RX8) (T := TX8) (N := 26) hx hb hts hwX8_valueOf_RX8 hown hK hP 0 rfl rfl 13 (by decide) (hts _ mwX8_valueOf_2) (fun _ h9 => h9) rfl dX8_valueOf_173 ?_
                refine lv_aload_n hx hb dX8_valueOf_176 rfl (lv_at hl 0 rfl) ?_
                refine va_get (D := (dC, dI)) (ci := 8) (v := .ref (q 8)) (C := RX8) (T := TX8) (N := 26) hx hb hts hwX8_valueOf_RX8 hown hK hP 0 rfl rfl 7 (by decide) (hts _ mwX8_valueOf_1) (fun _ h9 => h9) rfl dX8_valueOf_177 ?_
                refine lv_iload_n hx hb dX8_valueOf_180 rfl (lv_at hl 1 rfl) ?_
                refine va_iald (D := (dC, dI)) (cl := vwCl) hx hb hK hP 8 0 rfl rfl g_1 dX8_valueOf_181 ?_
                obtain ⟨g_18, hres⟩ := mi_g hres
                refine va_lald (D := (dC, dI)) (cl := vwCl) hx hb hK hP 11 1 rfl rfl g_18 dX8_valueOf_182 ?_
                refine va_mmin_long hx hb (hml.trans hl.1.symm) hown (hts _ mwX8_valueOf_4) (hts _ mwX8_valueOf_5) (hts _ mwX8_valueOf_6) (hts _ mwX8_valueOf_7) (Nat.le_of_ble_eq_true rfl) (Nat.le_of_ble_eq_true rfl) (Nat.zero_le _) (Nat.zero_le _) dX8_valueOf_183 ?_
                obtain rfl := Option.some.inj hres
                exact ret_L (r := (if (zv (Int32.toNatClampNeg (zb (Int32.toNatClampNeg x1)))) < (zv (Int32.toNatClampNeg (za (Int32.toNatClampNeg x1)))) then (zv (Int32.toNatClampNeg (zb (Int32.toNatClampNeg x1)))) else (zv (Int32.toNatClampNeg (za (Int32.toNatClampNeg x1)))))) C0 hP hD hS dX8_valueOf_186
              · replace hres := mi_n c_16 hres
                refine sw_tab (tgt := 187) hx hb dX8_valueOf_6 (by decide) (by
                  have n_0 : ¬ Int32.toInt (zk (Int32.toNatClampNeg x1)) = 0 := lv_neT (k := (0 : Int32)) (fun h9 => c_2 (h9)) (by decide)
                  have n_1 : ¬ Int32.toInt (zk (Int32.toNatClampNeg x1)) = 1 := lv_neT (k := (1 : Int32)) (fun h9 => c_3 (h9)) (by decide)
                  have n_2 : ¬ Int32.toInt (zk (Int32.toNatClampNeg x1)) = 2 := lv_neT (k := (2 : Int32)) (fun h9 => c_5 (h9)) (by decide)
                  have n_3 : ¬ Int32.toInt (zk (Int32.toNatClampNeg x1)) = 3 := lv_neT (k := (3 : Int32)) (fun h9 => c_8 (h9)) (by decide)
                  have n_4 : ¬ Int32.toInt (zk (Int32.toNatClampNeg x1)) = 4 := lv_neT (k := (4 : Int32)) (fun h9 => c_11 (h9)) (by decide)
                  have n_5 : ¬ Int32.toInt (zk (Int32.toNatClampNeg x1)) = 5 := lv_neT (k := (5 : Int32)) (fun h9 => c_14 (h9)) (by decide)
                  have n_6 : ¬ Int32.toInt (zk (Int32.toNatClampNeg x1)) = 6 := lv_neT (k := (6 : Int32)) (fun h9 => c_16 (h9)) (by decide)
                  unfold swt
                  split
                  · decide
                  · exfalso; omega) ?_
                refine lv_aload_n hx hb dX8_valueOf_187 rfl (lv_at hl 0 rfl) ?_
                refine lv_iload_n hx hb dX8_valueOf_188 rfl (lv_at hl 1 rfl) ?_
                obtain ⟨u19, hu19, hres⟩ := mi_b hres
                refine call_I C0 (run_V C0 (rest := []) (kX8_belowOf l dC dI q cI cJ cZ zn zm zj zf zr zw zs zfr zto zk zt za zb zq zl zv zo zu zov ztu zsh zle zmo zc zlo zhi  x1 u19 hu19 _) (cwV 1 hts gX8_valueOf_X8_belowOf rfl rfl rfl (by decide +kernel) ⟨by decide, by decide⟩) hP hD (ci := 8) (q0 := 0) rfl rfl rfl hl.1 rfl (Nat.le_of_ble_eq_true rfl) dX8_valueOf_189) hD hS (fun H locs hP hD hS => ?_)
                refine lv_if_eq (tgt := 199) hx hb dX8_valueOf_192 (by decide) (fun c_20 => ?_) (fun c_20 => ?_)
                · replace hres := mi_p c_20 hres
                  refine lv_lconst (v := (0 : Int64)) hx hb dX8_valueOf_199 (by decide) ?_
                  obtain rfl := Option.some.inj hres
                  exact ret_L (r := (0 : Int64)) C0 hP hD hS dX8_valueOf_200
                · replace hres := mi_n c_20 hres
                  refine lv_lconst (v := (1 : Int64)) hx hb dX8_valueOf_195 (by decide) ?_
                  refine lv_goto (tgt := 200) hx hb dX8_valueOf_196 (by decide) ?_
                  obtain rfl := Option.some.inj hres
                  exact ret_L (r := (1 : Int64)) C0 hP hD hS dX8_valueOf_200
