/-! ### SumsOverModel.goes(I)Z -/
set_option maxRecDepth 20000 in
theorem hwX8_goes_RX8 : ∀ w ∈ u_ws RX8 TX8 26, w ∈ wsX8_goes := by decide +kernel
theorem mwX8_goes_0 : (.fieldLink RX8 26 "SumsOverModel" "target" "[I" : Cond) ∈ wsX8_goes := by decide +kernel
theorem mwX8_goes_1 : (.fieldLink RX8 23 "SumsOverModel" "kind" "[I" : Cond) ∈ wsX8_goes := by decide +kernel
theorem mwX8_goes_2 : (.fieldLink RX8 32 "SumsOverModel" "b" "[I" : Cond) ∈ wsX8_goes := by decide +kernel
theorem mwX8_goes_3 : (.fieldLink RX8 60 "SumsOverModel" "least" "[J" : Cond) ∈ wsX8_goes := by decide +kernel
theorem mwX8_goes_4 : (.fieldLink RX8 29 "SumsOverModel" "a" "[I" : Cond) ∈ wsX8_goes := by decide +kernel
theorem mwX8_goes_5 : (.fieldLink RX8 63 "SumsOverModel" "most" "[J" : Cond) ∈ wsX8_goes := by decide +kernel
theorem mwX8_goes_6 : (.methodLink RX8 130 Lib.MathLoose.min_long.x : Cond) ∈ wsX8_goes := by decide +kernel
theorem mwX8_goes_7 : (.static Lib.MathLoose.min_long.x : Cond) ∈ wsX8_goes := by decide +kernel
theorem mwX8_goes_8 : (.initialized "java/lang/Math" : Cond) ∈ wsX8_goes := by decide +kernel
theorem mwX8_goes_9 : (.code Lib.MathLoose.min_long.x Lib.MathLoose.min_long.code 4 (some .long) : Cond) ∈ wsX8_goes := by decide +kernel
def rmX8_goes : Room := { frames := 4, cells := 0, slots := 0, locals := 103 }
set_option maxHeartbeats 4000000 in
set_option maxRecDepth 100000 in
theorem kX8_goes (l : Launch) (dC : Nat → ClassId) (dI : Nat → Nat → Nat) (q : Nat → Nat) (cI cJ cZ : ClassId) (zn : Int32) (zm : Int32) (zj : Int32) (zf : Int32) (zr : Int32) (zw : Nat → Int32) (zs : Nat → Int32) (zfr : Nat → Int32) (zto : Nat → Int32) (zk : Nat → Int32) (zt : Nat → Int32) (za : Nat → Int32) (zb : Nat → Int32) (zq : Nat → Int32) (zl : Nat → Int32) (zv : Nat → Int64) (zo : Nat → Int32) (zu : Nat → Int32) (zov : Nat → Int32) (ztu : Nat → Int32) (zsh : Nat → Int32) (zle : Nat → Int64) (zmo : Nat → Int64) (zc : Nat → Int32) (zlo : Nat → Int64) (zhi : Nat → Int64) (x1 : Int32) (RES : Int32 × (Nat → Int64) × (Nat → Int64)) (hres : mX8_goes zm zw zs zk zt za zb zle zmo x1 = some RES) : CtI l yX8_goes wsX8_goes rmX8_goes (dC, dI) (ty3 cI cJ cZ) (wM q cI cJ cZ zn zm zj zf zr zw zs zfr zto zk zt za zb zq zl zv zo zu zov ztu zsh zle zmo zc zlo zhi) [.ref (q 0), .int x1] RES.1 (wM q cI cJ cZ zn zm zj zf zr zw zs zfr zto zk zt za zb zq zl zv zo zu zov ztu zsh RES.2.1 RES.2.2 zc zlo zhi) := by
  intro sz
  refine ct_entry (cc := cX8_goes) (maxL := 3) (ret := some .boolean) (own := RX8) (by decide) rfl rfl (Nat.le_of_ble_eq_true rfl) (ll := [(0, .ref (q 0)), (1, .int x1)]) rfl ?_
  intro p e s m args below meth c hsz C0 _ hP hD ls hl
  have C1 := C0
  obtain ⟨hx, hb, hr, hml, hown, hts, hlocks, hN, hK, hA⟩ := C1
  have hS : va_S (va_A (wM q cI cJ cZ zn zm zj zf zr zw zs zfr zto zk zt za zb zq zl zv zo zu zov ztu zsh zle zmo zc zlo zhi) sz) s.heap s.heap [] := va_S.rf
  generalize va_A (wM q cI cJ cZ zn zm zj zf zr zw zs zfr zto zk zt za zb zq zl zv zo zu zov ztu zsh zle zmo zc zlo zhi) sz = A at C0 hD hA hS ⊢
  show W p l e rmX8_goes s m args below meth c s.heap [] 0 0 (QI below args s A (dC, dI) (ty3 cI cJ cZ) RES.1 (wM q cI cJ cZ zn zm zj zf zr zw zs zfr zto zk zt za zb zq zl zv zo zu zov ztu zsh RES.2.1 RES.2.2 zc zlo zhi)) (F0 m 0 ls [])
  unfold mX8_goes at hres
  refine lv_aload_n hx hb dX8_goes_0 rfl (lv_at hl 0 rfl) ?_
  refine va_get (D := (dC, dI)) (ci := 8) (v := .ref (q 6)) (C := RX8) (T := TX8) (N := 26) hx hb hts hwX8_goes_RX8 hown hK hP 0 rfl rfl 5 (by decide) (hts _ mwX8_goes_0) (fun _ h9 => h9) rfl dX8_goes_1 ?_
  refine lv_iload_n hx hb dX8_goes_4 rfl (lv_at hl 1 rfl) ?_
  obtain ⟨g_1, hres⟩ := mi_g hres
  refine va_iald (D := (dC, dI)) (cl := vwCl) hx hb hK hP 6 0 rfl rfl g_1 dX8_goes_5 ?_
  refine lv_istore_n (lv' := [(2, .int (zt (Int32.toNatClampNeg x1))), (0, .ref (q 0)), (1, .int x1)]) hx hb dX8_goes_6 rfl hl (by decide) rfl (fun ls hl => ?_)
  refine lv_aload_n hx hb dX8_goes_7 rfl (lv_at hl 1 rfl) ?_
  refine va_get (D := (dC, dI)) (ci := 8) (v := .ref (q 5)) (C := RX8) (T := TX8) (N := 26) hx hb hts hwX8_goes_RX8 hown hK hP 0 rfl rfl 4 (by decide) (hts _ mwX8_goes_1) (fun _ h9 => h9) rfl dX8_goes_8 ?_
  refine lv_iload_n hx hb dX8_goes_11 rfl (lv_at hl 2 rfl) ?_
  refine va_iald (D := (dC, dI)) (cl := vwCl) hx hb hK hP 5 0 rfl rfl g_1 dX8_goes_12 ?_
  by_cases c_2 : (zk (Int32.toNatClampNeg x1)) = (0 : Int32)
  · replace hres := mi_p c_2 hres
    refine sw_tab (tgt := 56) hx hb dX8_goes_13 (by decide) (by have h9 := c_2 <;> (rw [h9]; decide)) ?_
    refine lv_aload_n hx hb dX8_goes_56 rfl (lv_at hl 1 rfl) ?_
    refine lv_iload_n hx hb dX8_goes_57 rfl (lv_at hl 0 rfl) ?_
    refine lv_aload_n hx hb dX8_goes_58 rfl (lv_at hl 1 rfl) ?_
    refine va_get (D := (dC, dI)) (ci := 8) (v := .ref (q 8)) (C := RX8) (T := TX8) (N := 26) hx hb hts hwX8_goes_RX8 hown hK hP 0 rfl rfl 7 (by decide) (hts _ mwX8_goes_2) (fun _ h9 => h9) rfl dX8_goes_59 ?_
    refine lv_iload_n hx hb dX8_goes_62 rfl (lv_at hl 2 rfl) ?_
    refine va_iald (D := (dC, dI)) (cl := vwCl) hx hb hK hP 8 0 rfl rfl g_1 dX8_goes_63 ?_
    refine lv_i2l (v := ((zb (Int32.toNatClampNeg x1))).toInt64) hx hb dX8_goes_64 rfl ?_
    refine lv_aload_n hx hb dX8_goes_65 rfl (lv_at hl 1 rfl) ?_
    refine va_get (D := (dC, dI)) (ci := 8) (v := .ref (q 8)) (C := RX8) (T := TX8) (N := 26) hx hb hts hwX8_goes_RX8 hown hK hP 0 rfl rfl 7 (by decide) (hts _ mwX8_goes_2) (fun _ h9 => h9) rfl dX8_goes_66 ?_
    refine lv_iload_n hx hb dX8_goes_69 rfl (lv_at hl 2 rfl) ?_
    refine va_iald (D := (dC, dI)) (cl := vwCl) hx hb hK hP 8 0 rfl rfl g_1 dX8_goes_70 ?_
    refine lv_i2l (v := ((zb (Int32.toNatClampNeg x1))).toInt64) hx hb dX8_goes_71 rfl ?_
    obtain ⟨u3, hu3, hres⟩ := mi_b hres
    refine call_I C0 (run_V C0 (rest := []) (kX8_ends l dC dI q cI cJ cZ zn zm zj zf zr zw zs zfr zto zk zt za zb zq zl zv zo zu zov ztu zsh zle zmo zc zlo zhi  (zt (Int32.toNatClampNeg x1)) (((zb (Int32.toNatClampNeg x1))).toInt64) (((zb (Int32.toNatClampNeg x1))).toInt64) u3 hu3 _) (cwV 3 hts gX8_goes_X8_ends rfl rfl rfl (by decide +kernel) ⟨by decide, by decide⟩) hP hD (ci := 8) (q0 := 0) rfl rfl rfl hl.1 rfl (Nat.le_of_ble_eq_true rfl) dX8_goes_72) hD hS (fun H locs hP hD hS => ?_)
    obtain ⟨g_4, hres⟩ := mi_g hres
    obtain rfl := Option.some.inj hres
    exact ret_I (r := u3.1) C0 (narrow_z (Decidable.not_not.mp g_4)) hP hD hS dX8_goes_75
  · replace hres := mi_n c_2 hres
    by_cases c_5 : (zk (Int32.toNatClampNeg x1)) = (1 : Int32)
    · replace hres := mi_p c_5 hres
      refine sw_tab (tgt := 76) hx hb dX8_goes_13 (by decide) (by have h9 := c_5 <;> (rw [h9]; decide)) ?_
      refine lv_aload_n hx hb dX8_goes_76 rfl (lv_at hl 1 rfl) ?_
      refine lv_iload_n hx hb dX8_goes_77 rfl (lv_at hl 0 rfl) ?_
      refine lv_aload_n hx hb dX8_goes_78 rfl (lv_at hl 1 rfl) ?_
      refine va_get (D := (dC, dI)) (ci := 8) (v := .ref (q 17)) (C := RX8) (T := TX8) (N := 26) hx hb hts hwX8_goes_RX8 hown hK hP 0 rfl rfl 21 (by decide) (hts _ mwX8_goes_3) (fun _ h9 => h9) rfl dX8_goes_79 ?_
      refine lv_aload_n hx hb dX8_goes_82 rfl (lv_at hl 1 rfl) ?_
      refine va_get (D := (dC, dI)) (ci := 8) (v := .ref (q 7)) (C := RX8) (T := TX8) (N := 26) hx hb hts hwX8_goes_RX8 hown hK hP 0 rfl rfl 6 (by decide) (hts _ mwX8_goes_4) (fun _ h9 => h9) rfl dX8_goes_83 ?_
      refine lv_iload_n hx hb dX8_goes_86 rfl (lv_at hl 2 rfl) ?_
      refine va_iald (D := (dC, dI)) (cl := vwCl) hx hb hK hP 7 0 rfl rfl g_1 dX8_goes_87 ?_
      obtain ⟨g_6, hres⟩ := mi_g hres
      refine va_lald (D := (dC, dI)) (cl := vwCl) hx hb hK hP 17 1 rfl rfl g_6 dX8_goes_88 ?_
      refine lv_aload_n hx hb dX8_goes_89 rfl (lv_at hl 1 rfl) ?_
      refine va_get (D := (dC, dI)) (ci := 8) (v := .ref (q 18)) (C := RX8) (T := TX8) (N := 26) hx hb hts hwX8_goes_RX8 hown hK hP 0 rfl rfl 22 (by decide) (hts _ mwX8_goes_5) (fun _ h9 => h9) rfl dX8_goes_90 ?_
      refine lv_aload_n hx hb dX8_goes_93 rfl (lv_at hl 1 rfl) ?_
      refine va_get (D := (dC, dI)) (ci := 8) (v := .ref (q 7)) (C := RX8) (T := TX8) (N := 26) hx hb hts hwX8_goes_RX8 hown hK hP 0 rfl rfl 6 (by decide) (hts _ mwX8_goes_4) (fun _ h9 => h9) rfl dX8_goes_94 ?_
      refine lv_iload_n hx hb dX8_goes_97 rfl (lv_at hl 2 rfl) ?_
      refine va_iald (D := (dC, dI)) (cl := vwCl) hx hb hK hP 7 0 rfl rfl g_1 dX8_goes_98 ?_
      refine va_lald (D := (dC, dI)) (cl := vwCl) hx hb hK hP 18 1 rfl rfl g_6 dX8_goes_99 ?_
      obtain ⟨u7, hu7, hres⟩ := mi_b hres
      refine call_I C0 (run_V C0 (rest := []) (kX8_ends l dC dI q cI cJ cZ zn zm zj zf zr zw zs zfr zto zk zt za zb zq zl zv zo zu zov ztu zsh zle zmo zc zlo zhi  (zt (Int32.toNatClampNeg x1)) (zle (Int32.toNatClampNeg (za (Int32.toNatClampNeg x1)))) (zmo (Int32.toNatClampNeg (za (Int32.toNatClampNeg x1)))) u7 hu7 _) (cwV 3 hts gX8_goes_X8_ends rfl rfl rfl (by decide +kernel) ⟨by decide, by decide⟩) hP hD (ci := 8) (q0 := 0) rfl rfl rfl hl.1 rfl (Nat.le_of_ble_eq_true rfl) dX8_goes_100) hD hS (fun H locs hP hD hS => ?_)
      obtain ⟨g_8, hres⟩ := mi_g hres
      obtain rfl := Option.some.inj hres
      exact ret_I (r := u7.1) C0 (narrow_z (Decidable.not_not.mp g_8)) hP hD hS dX8_goes_103
    · replace hres := mi_n c_5 hres
      by_cases c_9 : (zk (Int32.toNatClampNeg x1)) = (2 : Int32)
      · replace hres := mi_p c_9 hres
        refine sw_tab (tgt := 104) hx hb dX8_goes_13 (by decide) (by have h9 := c_9 <;> (rw [h9]; decide)) ?_
        refine lv_aload_n hx hb dX8_goes_104 rfl (lv_at hl 1 rfl) ?_
        refine lv_iload_n hx hb dX8_goes_105 rfl (lv_at hl 0 rfl) ?_
        refine lv_aload_n hx hb dX8_goes_106 rfl (lv_at hl 1 rfl) ?_
        refine va_get (D := (dC, dI)) (ci := 8) (v := .ref (q 17)) (C := RX8) (T := TX8) (N := 26) hx hb hts hwX8_goes_RX8 hown hK hP 0 rfl rfl 21 (by decide) (hts _ mwX8_goes_3) (fun _ h9 => h9) rfl dX8_goes_107 ?_
        refine lv_aload_n hx hb dX8_goes_110 rfl (lv_at hl 1 rfl) ?_
        refine va_get (D := (dC, dI)) (ci := 8) (v := .ref (q 7)) (C := RX8) (T := TX8) (N := 26) hx hb hts hwX8_goes_RX8 hown hK hP 0 rfl rfl 6 (by decide) (hts _ mwX8_goes_4) (fun _ h9 => h9) rfl dX8_goes_111 ?_
        refine lv_iload_n hx hb dX8_goes_114 rfl (lv_at hl 2 rfl) ?_
        refine va_iald (D := (dC, dI)) (cl := vwCl) hx hb hK hP 7 0 rfl rfl g_1 dX8_goes_115 ?_
        obtain ⟨g_10, hres⟩ := mi_g hres
        refine va_lald (D := (dC, dI)) (cl := vwCl) hx hb hK hP 17 1 rfl rfl g_10 dX8_goes_116 ?_
        refine lv_aload_n hx hb dX8_goes_117 rfl (lv_at hl 1 rfl) ?_
        refine va_get (D := (dC, dI)) (ci := 8) (v := .ref (q 17)) (C := RX8) (T := TX8) (N := 26) hx hb hts hwX8_goes_RX8 hown hK hP 0 rfl rfl 21 (by decide) (hts _ mwX8_goes_3) (fun _ h9 => h9) rfl dX8_goes_118 ?_
        refine lv_aload_n hx hb dX8_goes_121 rfl (lv_at hl 1 rfl) ?_
        refine va_get (D := (dC, dI)) (ci := 8) (v := .ref (q 8)) (C := RX8) (T := TX8) (N := 26) hx hb hts hwX8_goes_RX8 hown hK hP 0 rfl rfl 7 (by decide) (hts _ mwX8_goes_2) (fun _ h9 => h9) rfl dX8_goes_122 ?_
        refine lv_iload_n hx hb dX8_goes_125 rfl (lv_at hl 2 rfl) ?_
        refine va_iald (D := (dC, dI)) (cl := vwCl) hx hb hK hP 8 0 rfl rfl g_1 dX8_goes_126 ?_
        obtain ⟨g_11, hres⟩ := mi_g hres
        refine va_lald (D := (dC, dI)) (cl := vwCl) hx hb hK hP 17 1 rfl rfl g_11 dX8_goes_127 ?_
        refine lv_ladd hx hb dX8_goes_128 ?_
        refine lv_aload_n hx hb dX8_goes_129 rfl (lv_at hl 1 rfl) ?_
        refine va_get (D := (dC, dI)) (ci := 8) (v := .ref (q 18)) (C := RX8) (T := TX8) (N := 26) hx hb hts hwX8_goes_RX8 hown hK hP 0 rfl rfl 22 (by decide) (hts _ mwX8_goes_5) (fun _ h9 => h9) rfl dX8_goes_130 ?_
        refine lv_aload_n hx hb dX8_goes_133 rfl (lv_at hl 1 rfl) ?_
        refine va_get (D := (dC, dI)) (ci := 8) (v := .ref (q 7)) (C := RX8) (T := TX8) (N := 26) hx hb hts hwX8_goes_RX8 hown hK hP 0 rfl rfl 6 (by decide) (hts _ mwX8_goes_4) (fun _ h9 => h9) rfl dX8_goes_134 ?_
        refine lv_iload_n hx hb dX8_goes_137 rfl (lv_at hl 2 rfl) ?_
        refine va_iald (D := (dC, dI)) (cl := vwCl) hx hb hK hP 7 0 rfl rfl g_1 dX8_goes_138 ?_
        refine va_lald (D := (dC, dI)) (cl := vwCl) hx hb hK hP 18 1 rfl rfl g_10 dX8_goes_139 ?_
        refine lv_aload_n hx hb dX8_goes_140 rfl (lv_at hl 1 rfl) ?_
        refine va_get (D := (dC, dI)) (ci := 8) (v := .ref (q 18)) (C := RX8) (T := TX8) (N := 26) hx hb hts hwX8_goes_RX8 hown hK hP 0 rfl rfl 22 (by decide) (hts _ mwX8_goes_5) (fun _ h9 => h9) rfl dX8_goes_141 ?_
        refine lv_aload_n hx hb dX8_goes_144 rfl (lv_at hl 1 rfl) ?_
        refine va_get (D := (dC, dI)) (ci := 8) (v := .ref (q 8)) (C := RX8) (T := TX8) (N := 26) hx hb hts hwX8_goes_RX8 hown hK hP 0 rfl rfl 7 (by decide) (hts _ mwX8_goes_2) (fun _ h9 => h9) rfl dX8_goes_145 ?_
        refine lv_iload_n hx hb dX8_goes_148 rfl (lv_at hl 2 rfl) ?_
        refine va_iald (D := (dC, dI)) (cl := vwCl) hx hb hK hP 8 0 rfl rfl g_1 dX8_goes_149 ?_
        refine va_lald (D := (dC, dI)) (cl := vwCl) hx hb hK hP 18 1 rfl rfl g_11 dX8_goes_150 ?_
        refine lv_ladd hx hb dX8_goes_151 ?_
        obtain ⟨u12, hu12, hres⟩ := mi_b hres
        refine call_I C0 (run_V C0 (rest := []) (kX8_ends l dC dI q cI cJ cZ zn zm zj zf zr zw zs zfr zto zk zt za zb zq zl zv zo zu zov ztu zsh zle zmo zc zlo zhi  (zt (Int32.toNatClampNeg x1)) ((zle (Int32.toNatClampNeg (za (Int32.toNatClampNeg x1)))) + (zle (Int32.toNatClampNeg (zb (Int32.toNatClampNeg x1))))) ((zmo (Int32.toNatClampNeg (za (Int32.toNatClampNeg x1)))) + (zmo (Int32.toNatClampNeg (zb (Int32.toNatClampNeg x1))))) u12 hu12 _) (cwV 3 hts gX8_goes_X8_ends rfl rfl rfl (by decide +kernel) ⟨by decide, by decide⟩) hP hD (ci := 8) (q0 := 0) rfl rfl rfl hl.1 rfl (Nat.le_of_ble_eq_true rfl) dX8_goes_152) hD hS (fun H locs hP hD hS => ?_)
        obtain ⟨g_13, hres⟩ := mi_g hres
        obtain rfl := Option.some.inj hres
        exact ret_I (r := u12.1) C0 (narrow_z (Decidable.not_not.mp g_13)) hP hD hS dX8_goes_155
      · replace hres := mi_n c_9 hres
        by_cases c_14 : (zk (Int32.toNatClampNeg x1)) = (3 : Int32)
        · replace hres := mi_p c_14 hres
          refine sw_tab (tgt := 156) hx hb dX8_goes_13 (by decide) (by have h9 := c_14 <;> (rw [h9]; decide)) ?_
          refine lv_aload_n hx hb dX8_goes_156 rfl (lv_at hl 1 rfl) ?_
          refine lv_iload_n hx hb dX8_goes_157 rfl (lv_at hl 0 rfl) ?_
          refine lv_aload_n hx hb dX8_goes_158 rfl (lv_at hl 1 rfl) ?_
          refine va_get (D := (dC, dI)) (ci := 8) (v := .ref (q 17)) (C := RX8) (T := TX8) (N := 26) hx hb hts hwX8_goes_RX8 hown hK hP 0 rfl rfl 21 (by decide) (hts _ mwX8_goes_3) (fun _ h9 => h9) rfl dX8_goes_159 ?_
          refine lv_aload_n hx hb dX8_goes_162 rfl (lv_at hl 1 rfl) ?_
          refine va_get (D := (dC, dI)) (ci := 8) (v := .ref (q 7)) (C := RX8) (T := TX8) (N := 26) hx hb hts hwX8_goes_RX8 hown hK hP 0 rfl rfl 6 (by decide) (hts _ mwX8_goes_4) (fun _ h9 => h9) rfl dX8_goes_163 ?_
          refine lv_iload_n hx hb dX8_goes_166 rfl (lv_at hl 2 rfl) ?_
          refine va_iald (D := (dC, dI)) (cl := vwCl) hx hb hK hP 7 0 rfl rfl g_1 dX8_goes_167 ?_
          obtain ⟨g_15, hres⟩ := mi_g hres
          refine va_lald (D := (dC, dI)) (cl := vwCl) hx hb hK hP 17 1 rfl rfl g_15 dX8_goes_168 ?_
          refine lv_aload_n hx hb dX8_goes_169 rfl (lv_at hl 1 rfl) ?_
          refine va_get (D := (dC, dI)) (ci := 8) (v := .ref (q 18)) (C := RX8) (T := TX8) (N := 26) hx hb hts hwX8_goes_RX8 hown hK hP 0 rfl rfl 22 (by decide) (hts _ mwX8_goes_5) (fun _ h9 => h9) rfl dX8_goes_170 ?_
          refine lv_aload_n hx hb dX8_goes_173 rfl (lv_at hl 1 rfl) ?_
          refine va_get (D := (dC, dI)) (ci := 8) (v := .ref (q 8)) (C := RX8) (T := TX8) (N := 26) hx hb hts hwX8_goes_RX8 hown hK hP 0 rfl rfl 7 (by decide) (hts _ mwX8_goes_2) (fun _ h9 => h9) rfl dX8_goes_174 ?_
          refine lv_iload_n hx hb dX8_goes_177 rfl (lv_at hl 2 rfl) ?_
          refine va_iald (D := (dC, dI)) (cl := vwCl) hx hb hK hP 8 0 rfl rfl g_1 dX8_goes_178 ?_
          obtain ⟨g_16, hres⟩ := mi_g hres
          refine va_lald (D := (dC, dI)) (cl := vwCl) hx hb hK hP 18 1 rfl rfl g_16 dX8_goes_179 ?_
          refine lv_lsub hx hb dX8_goes_180 ?_
          refine lv_aload_n hx hb dX8_goes_181 rfl (lv_at hl 1 rfl) ?_
          refine va_get (D := (dC, dI)) (ci := 8) (v := .ref (q 18)) (C := RX8) (T := TX8) (N := 26) hx hb hts hwX8_goes_RX8 hown hK hP 0 rfl rfl 22 (by decide) (hts _ mwX8_goes_5) (fun _ h9 => h9) rfl dX8_goes_182 ?_
          refine lv_aload_n hx hb dX8_goes_185 rfl (lv_at hl 1 rfl) ?_
          refine va_get (D := (dC, dI)) (ci := 8) (v := .ref (q 7)) (C := RX8) (T := TX8) (N := 26) hx hb hts hwX8_goes_RX8 hown hK hP 0 rfl rfl 6 (by decide) (hts _ mwX8_goes_4) (fun _ h9 => h9) rfl dX8_goes_186 ?_
          refine lv_iload_n hx hb dX8_goes_189 rfl (lv_at hl 2 rfl) ?_
          refine va_iald (D := (dC, dI)) (cl := vwCl) hx hb hK hP 7 0 rfl rfl g_1 dX8_goes_190 ?_
          refine va_lald (D := (dC, dI)) (cl := vwCl) hx hb hK hP 18 1 rfl rfl g_15 dX8_goes_191 ?_
          refine lv_aload_n hx hb dX8_goes_192 rfl (lv_at hl 1 rfl) ?_
          refine va_get (D := (dC, dI)) (ci := 8) (v := .ref (q 17)) (C := RX8) (T := TX8) (N := 26) hx hb hts hwX8_goes_RX8 hown hK hP 0 rfl rfl 21 (by decide) (hts _ mwX8_goes_3) (fun _ h9 => h9) rfl dX8_goes_193 ?_
          refine lv_aload_n hx hb dX8_goes_196 rfl (lv_at hl 1 rfl) ?_
          refine va_get (D := (dC, dI)) (ci := 8) (v := .ref (q 8)) (C := RX8) (T := TX8) (N := 26) hx hb hts hwX8_goes_RX8 hown hK hP 0 rfl rfl 7 (by decide) (hts _ mwX8_goes_2) (fun _ h9 => h9) rfl dX8_goes_197 ?_
          refine lv_iload_n hx hb dX8_goes_200 rfl (lv_at hl 2 rfl) ?_
          refine va_iald (D := (dC, dI)) (cl := vwCl) hx hb hK hP 8 0 rfl rfl g_1 dX8_goes_201 ?_
          refine va_lald (D := (dC, dI)) (cl := vwCl) hx hb hK hP 17 1 rfl rfl g_16 dX8_goes_202 ?_
          refine lv_lsub hx hb dX8_goes_203 ?_
          obtain ⟨u17, hu17, hres⟩ := mi_b hres
          refine call_I C0 (run_V C0 (rest := []) (kX8_ends l dC dI q cI cJ cZ zn zm zj zf zr zw zs zfr zto zk zt za zb zq zl zv zo zu zov ztu zsh zle zmo zc zlo zhi  (zt (Int32.toNatClampNeg x1)) ((zle (Int32.toNatClampNeg (za (Int32.toNatClampNeg x1)))) - (zmo (Int32.toNatClampNeg (zb (Int32.toNatClampNeg x1))))) ((zmo (Int32.toNatClampNeg (za (Int32.toNatClampNeg x1)))) - (zle (Int32.toNatClampNeg (zb (Int32.toNatClampNeg x1))))) u17 hu17 _) (cwV 3 hts gX8_goes_X8_ends rfl rfl rfl (by decide +kernel) ⟨by decide, by decide⟩) hP hD (ci := 8) (q0 := 0) rfl rfl rfl hl.1 rfl (Nat.le_of_ble_eq_true rfl) dX8_goes_204) hD hS (fun H locs hP hD hS => ?_)
          obtain ⟨g_18, hres⟩ := mi_g hres
          obtain rfl := Option.some.inj hres
          exact ret_I (r := u17.1) C0 (narrow_z (Decidable.not_not.mp g_18)) hP hD hS dX8_goes_207
        · replace hres := mi_n c_14 hres
          by_cases c_19 : (zk (Int32.toNatClampNeg x1)) = (4 : Int32)
          · replace hres := mi_p c_19 hres
            refine sw_tab (tgt := 208) hx hb dX8_goes_13 (by decide) (by have h9 := c_19 <;> (rw [h9]; decide)) ?_
            refine lv_aload_n hx hb dX8_goes_208 rfl (lv_at hl 1 rfl) ?_
            refine lv_iload_n hx hb dX8_goes_209 rfl (lv_at hl 2 rfl) ?_
            obtain ⟨u20, hu20, hres⟩ := mi_b hres
            refine call_I C0 (run_V C0 (rest := []) (kX8_products l dC dI q cI cJ cZ zn zm zj zf zr zw zs zfr zto zk zt za zb zq zl zv zo zu zov ztu zsh zle zmo zc zlo zhi  x1 u20 hu20 _) (cwV 1 hts gX8_goes_X8_products rfl rfl rfl (by decide +kernel) ⟨by decide, by decide⟩) hP hD (ci := 8) (q0 := 0) rfl rfl rfl hl.1 rfl (Nat.le_of_ble_eq_true rfl) dX8_goes_210) hD hS (fun H locs hP hD hS => ?_)
            obtain ⟨g_21, hres⟩ := mi_g hres
            obtain rfl := Option.some.inj hres
            exact ret_I (r := u20.1) C0 (narrow_z (Decidable.not_not.mp g_21)) hP hD hS dX8_goes_213
          · replace hres := mi_n c_19 hres
            by_cases c_22 : (zk (Int32.toNatClampNeg x1)) = (5 : Int32)
            · replace hres := mi_p c_22 hres
              refine sw_tab (tgt := 214) hx hb dX8_goes_13 (by decide) (by have h9 := c_22 <;> (rw [h9]; decide)) ?_
              refine lv_aload_n hx hb dX8_goes_214 rfl (lv_at hl 1 rfl) ?_
              refine lv_iload_n hx hb dX8_goes_215 rfl (lv_at hl 0 rfl) ?_
              refine lv_aload_n hx hb dX8_goes_216 rfl (lv_at hl 1 rfl) ?_
              refine va_get (D := (dC, dI)) (ci := 8) (v := .ref (q 17)) (C := RX8) (T := TX8) (N := 26) hx hb hts hwX8_goes_RX8 hown hK hP 0 rfl rfl 21 (by decide) (hts _ mwX8_goes_3) (fun _ h9 => h9) rfl dX8_goes_217 ?_
              refine lv_aload_n hx hb dX8_goes_220 rfl (lv_at hl 1 rfl) ?_
              refine va_get (D := (dC, dI)) (ci := 8) (v := .ref (q 7)) (C := RX8) (T := TX8) (N := 26) hx hb hts hwX8_goes_RX8 hown hK hP 0 rfl rfl 6 (by decide) (hts _ mwX8_goes_4) (fun _ h9 => h9) rfl dX8_goes_221 ?_
              refine lv_iload_n hx hb dX8_goes_224 rfl (lv_at hl 2 rfl) ?_
              refine va_iald (D := (dC, dI)) (cl := vwCl) hx hb hK hP 7 0 rfl rfl g_1 dX8_goes_225 ?_
              obtain ⟨g_23, hres⟩ := mi_g hres
              refine va_lald (D := (dC, dI)) (cl := vwCl) hx hb hK hP 17 1 rfl rfl g_23 dX8_goes_226 ?_
              refine lv_lconst (v := (1 : Int64)) hx hb dX8_goes_227 (by decide) ?_
              refine lv_aload_n hx hb dX8_goes_228 rfl (lv_at hl 1 rfl) ?_
              refine va_get (D := (dC, dI)) (ci := 8) (v := .ref (q 8)) (C := RX8) (T := TX8) (N := 26) hx hb hts hwX8_goes_RX8 hown hK hP 0 rfl rfl 7 (by decide) (hts _ mwX8_goes_2) (fun _ h9 => h9) rfl dX8_goes_229 ?_
              refine lv_iload_n hx hb dX8_goes_232 rfl (lv_at hl 2 rfl) ?_
              refine va_iald (D := (dC, dI)) (cl := vwCl) hx hb hK hP 8 0 rfl rfl g_1 dX8_goes_233 ?_
              refine lv_lshl (v := ((1 : Int64) <<< (((zb (Int32.toNatClampNeg x1))).toInt64 &&& 63))) hx hb dX8_goes_234 rfl ?_
              refine lv_lmul hx hb dX8_goes_235 ?_
              refine lv_aload_n hx hb dX8_goes_236 rfl (lv_at hl 1 rfl) ?_
              refine va_get (D := (dC, dI)) (ci := 8) (v := .ref (q 18)) (C := RX8) (T := TX8) (N := 26) hx hb hts hwX8_goes_RX8 hown hK hP 0 rfl rfl 22 (by decide) (hts _ mwX8_goes_5) (fun _ h9 => h9) rfl dX8_goes_237 ?_
              refine lv_aload_n hx hb dX8_goes_240 rfl (lv_at hl 1 rfl) ?_
              refine va_get (D := (dC, dI)) (ci := 8) (v := .ref (q 7)) (C := RX8) (T := TX8) (N := 26) hx hb hts hwX8_goes_RX8 hown hK hP 0 rfl rfl 6 (by decide) (hts _ mwX8_goes_4) (fun _ h9 => h9) rfl dX8_goes_241 ?_
              refine lv_iload_n hx hb dX8_goes_244 rfl (lv_at hl 2 rfl) ?_
              refine va_iald (D := (dC, dI)) (cl := vwCl) hx hb hK hP 7 0 rfl rfl g_1 dX8_goes_245 ?_
              refine va_lald (D := (dC, dI)) (cl := vwCl) hx hb hK hP 18 1 rfl rfl g_23 dX8_goes_246 ?_
              refine lv_lconst (v := (1 : Int64)) hx hb dX8_goes_247 (by decide) ?_
              refine lv_aload_n hx hb dX8_goes_248 rfl (lv_at hl 1 rfl) ?_
              refine va_get (D := (dC, dI)) (ci := 8) (v := .ref (q 8)) (C := RX8) (T := TX8) (N := 26) hx hb hts hwX8_goes_RX8 hown hK hP 0 rfl rfl 7 (by decide) (hts _ mwX8_goes_2) (fun _ h9 => h9) rfl dX8_goes_249 ?_
              refine lv_iload_n hx hb dX8_goes_252 rfl (lv_at hl 2 rfl) ?_
              refine va_iald (D := (dC, dI)) (cl := vwCl) hx hb hK hP 8 0 rfl rfl g_1 dX8_goes_253 ?_
              refine lv_lshl (v := ((1 : Int64) <<< (((zb (Int32.toNatClampNeg x1))).toInt64 &&& 63))) hx hb dX8_goes_254 rfl ?_
              refine lv_lmul hx hb dX8_goes_255 ?_
              obtain ⟨u24, hu24, hres⟩ := mi_b hres
              refine call_I C0 (run_V C0 (rest := []) (kX8_ends l dC dI q cI cJ cZ zn zm zj zf zr zw zs zfr zto zk zt za zb zq zl zv zo zu zov ztu zsh zle zmo zc zlo zhi  (zt (Int32.toNatClampNeg x1)) ((zle (Int32.toNatClampNeg (za (Int32.toNatClampNeg x1)))) * ((1 : Int64) <<< (((zb (Int32.toNatClampNeg x1))).toInt64 &&& 63))) ((zmo (Int32.toNatClampNeg (za (Int32.toNatClampNeg x1)))) * ((1 : Int64) <<< (((zb (Int32.toNatClampNeg x1))).toInt64 &&& 63))) u24 hu24 _) (cwV 3 hts gX8_goes_X8_ends rfl rfl rfl (by decide +kernel) ⟨by decide, by decide⟩) hP hD (ci := 8) (q0 := 0) rfl rfl rfl hl.1 rfl (Nat.le_of_ble_eq_true rfl) dX8_goes_256) hD hS (fun H locs hP hD hS => ?_)
              obtain ⟨g_25, hres⟩ := mi_g hres
              obtain rfl := Option.some.inj hres
              exact ret_I (r := u24.1) C0 (narrow_z (Decidable.not_not.mp g_25)) hP hD hS dX8_goes_259
            · replace hres := mi_n c_22 hres
              by_cases c_26 : (zk (Int32.toNatClampNeg x1)) = (6 : Int32)
              · replace hres := mi_p c_26 hres
                refine sw_tab (tgt := 260) hx hb dX8_goes_13 (by decide) (by have h9 := c_26 <;> (rw [h9]; decide)) ?_
                refine lv_aload_n hx hb dX8_goes_260 rfl (lv_at hl 1 rfl) ?_
                refine lv_iload_n hx hb dX8_goes_261 rfl (lv_at hl 0 rfl) ?_
                refine lv_aload_n hx hb dX8_goes_262 rfl (lv_at hl 1 rfl) ?_
                refine va_get (D := (dC, dI)) (ci := 8) (v := .ref (q 17)) (C := RX8) (T := TX8) (N := 26) hx hb hts hwX8_goes_RX8 hown hK hP 0 rfl rfl 21 (by decide) (hts _ mwX8_goes_3) (fun _ h9 => h9) rfl dX8_goes_263 ?_
                refine lv_aload_n hx hb dX8_goes_266 rfl (lv_at hl 1 rfl) ?_
                refine va_get (D := (dC, dI)) (ci := 8) (v := .ref (q 7)) (C := RX8) (T := TX8) (N := 26) hx hb hts hwX8_goes_RX8 hown hK hP 0 rfl rfl 6 (by decide) (hts _ mwX8_goes_4) (fun _ h9 => h9) rfl dX8_goes_267 ?_
                refine lv_iload_n hx hb dX8_goes_270 rfl (lv_at hl 2 rfl) ?_
                refine va_iald (D := (dC, dI)) (cl := vwCl) hx hb hK hP 7 0 rfl rfl g_1 dX8_goes_271 ?_
                obtain ⟨g_27, hres⟩ := mi_g hres
                refine va_lald (D := (dC, dI)) (cl := vwCl) hx hb hK hP 17 1 rfl rfl g_27 dX8_goes_272 ?_
                refine lv_aload_n hx hb dX8_goes_273 rfl (lv_at hl 1 rfl) ?_
                refine va_get (D := (dC, dI)) (ci := 8) (v := .ref (q 17)) (C := RX8) (T := TX8) (N := 26) hx hb hts hwX8_goes_RX8 hown hK hP 0 rfl rfl 21 (by decide) (hts _ mwX8_goes_3) (fun _ h9 => h9) rfl dX8_goes_274 ?_
                refine lv_aload_n hx hb dX8_goes_277 rfl (lv_at hl 1 rfl) ?_
                refine va_get (D := (dC, dI)) (ci := 8) (v := .ref (q 8)) (C := RX8) (T := TX8) (N := 26) hx hb hts hwX8_goes_RX8 hown hK hP 0 rfl rfl 7 (by decide) (hts _ mwX8_goes_2) (fun _ h9 => h9) rfl dX8_goes_278 ?_
                refine lv_iload_n hx hb dX8_goes_281 rfl (lv_at hl 2 rfl) ?_
                refine va_iald (D := (dC, dI)) (cl := vwCl) hx hb hK hP 8 0 rfl rfl g_1 dX8_goes_282 ?_
                obtain ⟨g_28, hres⟩ := mi_g hres
                refine va_lald (D := (dC, dI)) (cl := vwCl) hx hb hK hP 17 1 rfl rfl g_28 dX8_goes_283 ?_
                refine va_mmin_long hx hb (hml.trans hl.1.symm) hown (hts _ mwX8_goes_6) (hts _ mwX8_goes_7) (hts _ mwX8_goes_8) (hts _ mwX8_goes_9) (Nat.le_of_ble_eq_true rfl) (Nat.le_of_ble_eq_true rfl) (Nat.zero_le _) (Nat.zero_le _) dX8_goes_284 ?_
                refine lv_aload_n hx hb dX8_goes_287 rfl (lv_at hl 1 rfl) ?_
                refine va_get (D := (dC, dI)) (ci := 8) (v := .ref (q 18)) (C := RX8) (T := TX8) (N := 26) hx hb hts hwX8_goes_RX8 hown hK hP 0 rfl rfl 22 (by decide) (hts _ mwX8_goes_5) (fun _ h9 => h9) rfl dX8_goes_288 ?_
                refine lv_aload_n hx hb dX8_goes_291 rfl (lv_at hl 1 rfl) ?_
                refine va_get (D := (dC, dI)) (ci := 8) (v := .ref (q 7)) (C := RX8) (T := TX8) (N := 26) hx hb hts hwX8_goes_RX8 hown hK hP 0 rfl rfl 6 (by decide) (hts _ mwX8_goes_4) (fun _ h9 => h9) rfl dX8_goes_292 ?_
                refine lv_iload_n hx hb dX8_goes_295 rfl (lv_at hl 2 rfl) ?_
                refine va_iald (D := (dC, dI)) (cl := vwCl) hx hb hK hP 7 0 rfl rfl g_1 dX8_goes_296 ?_
                refine va_lald (D := (dC, dI)) (cl := vwCl) hx hb hK hP 18 1 rfl rfl g_27 dX8_goes_297 ?_
                refine lv_aload_n hx hb dX8_goes_298 rfl (lv_at hl 1 rfl) ?_
                refine va_get (D := (dC, dI)) (ci := 8) (v := .ref (q 18)) (C := RX8) (T := TX8) (N := 26) hx hb hts hwX8_goes_RX8 hown hK hP 0 rfl rfl 22 (by decide) (hts _ mwX8_goes_5) (fun _ h9 => h9) rfl dX8_goes_299 ?_
                refine lv_aload_n hx hb dX8_goes_302 rfl (lv_at hl 1 rfl) ?_
                refine va_get (D := (dC, dI)) (ci := 8) (v := .ref (q 8)) (C := RX8) (T := TX8) (N := 26) hx hb hts hwX8_goes_RX8 hown hK hP 0 rfl rfl 7 (by decide) (hts _ mwX8_goes_2) (fun _ h9 => h9) rfl dX8_goes_303 ?_
                refine lv_iload_n hx hb dX8_goes_306 rfl (lv_at hl 2 rfl) ?_
                refine va_iald (D := (dC, dI)) (cl := vwCl) hx hb hK hP 8 0 rfl rfl g_1 dX8_goes_307 ?_
                refine va_lald (D := (dC, dI)) (cl := vwCl) hx hb hK hP 18 1 rfl rfl g_28 dX8_goes_308 ?_
                refine va_mmin_long hx hb (hml.trans hl.1.symm) hown (hts _ mwX8_goes_6) (hts _ mwX8_goes_7) (hts _ mwX8_goes_8) (hts _ mwX8_goes_9) (Nat.le_of_ble_eq_true rfl) (Nat.le_of_ble_eq_true rfl) (Nat.zero_le _) (Nat.zero_le _) dX8_goes_309 ?_
                obtain ⟨u29, hu29, hres⟩ := mi_b hres
                refine call_I C0 (run_V C0 (rest := []) (kX8_ends l dC dI q cI cJ cZ zn zm zj zf zr zw zs zfr zto zk zt za zb zq zl zv zo zu zov ztu zsh zle zmo zc zlo zhi  (zt (Int32.toNatClampNeg x1)) (if (zle (Int32.toNatClampNeg (zb (Int32.toNatClampNeg x1)))) < (zle (Int32.toNatClampNeg (za (Int32.toNatClampNeg x1)))) then (zle (Int32.toNatClampNeg (zb (Int32.toNatClampNeg x1)))) else (zle (Int32.toNatClampNeg (za (Int32.toNatClampNeg x1))))) (if (zmo (Int32.toNatClampNeg (zb (Int32.toNatClampNeg x1)))) < (zmo (Int32.toNatClampNeg (za (Int32.toNatClampNeg x1)))) then (zmo (Int32.toNatClampNeg (zb (Int32.toNatClampNeg x1)))) else (zmo (Int32.toNatClampNeg (za (Int32.toNatClampNeg x1))))) u29 hu29 _) (cwV 3 hts gX8_goes_X8_ends rfl rfl rfl (by decide +kernel) ⟨by decide, by decide⟩) hP hD (ci := 8) (q0 := 0) rfl rfl rfl hl.1 rfl (Nat.le_of_ble_eq_true rfl) dX8_goes_312) hD hS (fun H locs hP hD hS => ?_)
                obtain ⟨g_30, hres⟩ := mi_g hres
                obtain rfl := Option.some.inj hres
                exact ret_I (r := u29.1) C0 (narrow_z (Decidable.not_not.mp g_30)) hP hD hS dX8_goes_315
              · replace hres := mi_n c_26 hres
                refine sw_tab (tgt := 316) hx hb dX8_goes_13 (by decide) (by
                  have n_0 : ¬ Int32.toInt (zk (Int32.toNatClampNeg x1)) = 0 := lv_neT (k := (0 : Int32)) (fun h9 => c_2 (h9)) (by decide)
                  have n_1 : ¬ Int32.toInt (zk (Int32.toNatClampNeg x1)) = 1 := lv_neT (k := (1 : Int32)) (fun h9 => c_5 (h9)) (by decide)
                  have n_2 : ¬ Int32.toInt (zk (Int32.toNatClampNeg x1)) = 2 := lv_neT (k := (2 : Int32)) (fun h9 => c_9 (h9)) (by decide)
                  have n_3 : ¬ Int32.toInt (zk (Int32.toNatClampNeg x1)) = 3 := lv_neT (k := (3 : Int32)) (fun h9 => c_14 (h9)) (by decide)
                  have n_4 : ¬ Int32.toInt (zk (Int32.toNatClampNeg x1)) = 4 := lv_neT (k := (4 : Int32)) (fun h9 => c_19 (h9)) (by decide)
                  have n_5 : ¬ Int32.toInt (zk (Int32.toNatClampNeg x1)) = 5 := lv_neT (k := (5 : Int32)) (fun h9 => c_22 (h9)) (by decide)
                  have n_6 : ¬ Int32.toInt (zk (Int32.toNatClampNeg x1)) = 6 := lv_neT (k := (6 : Int32)) (fun h9 => c_26 (h9)) (by decide)
                  unfold swt
                  split
                  · decide
                  · exfalso; omega) ?_
                refine lv_aload_n hx hb dX8_goes_316 rfl (lv_at hl 1 rfl) ?_
                refine lv_iload_n hx hb dX8_goes_317 rfl (lv_at hl 2 rfl) ?_
                obtain ⟨u31, hu31, hres⟩ := mi_b hres
                refine call_I C0 (run_V C0 (rest := []) (kX8_belows l dC dI q cI cJ cZ zn zm zj zf zr zw zs zfr zto zk zt za zb zq zl zv zo zu zov ztu zsh zle zmo zc zlo zhi  x1 u31 hu31 _) (cwV 1 hts gX8_goes_X8_belows rfl rfl rfl (by decide +kernel) ⟨by decide, by decide⟩) hP hD (ci := 8) (q0 := 0) rfl rfl rfl hl.1 rfl (Nat.le_of_ble_eq_true rfl) dX8_goes_318) hD hS (fun H locs hP hD hS => ?_)
                obtain ⟨g_32, hres⟩ := mi_g hres
                obtain rfl := Option.some.inj hres
                exact ret_I (r := u31.1) C0 (narrow_z (Decidable.not_not.mp g_32)) hP hD hS dX8_goes_321
/-! ### SumsOverModel.spans()V -/
set_option maxRecDepth 20000 in
theorem hwX8_spans_RX8 : ∀ w ∈ u_ws RX8 TX8 26, w ∈ wsX8_spans := by decide +kernel
theorem mwX8_spans_0 : (.fieldLink RX8 60 "SumsOverModel" "least" "[J" : Cond) ∈ wsX8_spans := by decide +kernel
theorem mwX8_spans_1 : (.fieldLink RX8 63 "SumsOverModel" "most" "[J" : Cond) ∈ wsX8_spans := by decide +kernel
theorem mwX8_spans_2 : (.fieldLink RX8 75 "SumsOverModel" "steps" "I" : Cond) ∈ wsX8_spans := by decide +kernel
theorem mwX8_spans_3 : (.fieldLink RX8 66 "SumsOverModel" "could" "[Z" : Cond) ∈ wsX8_spans := by decide +kernel
theorem mwX8_spans_4 : (.fieldLink RX8 17 "SumsOverModel" "from" "[I" : Cond) ∈ wsX8_spans := by decide +kernel
theorem mwX8_spans_5 : (.fieldLink RX8 20 "SumsOverModel" "to" "[I" : Cond) ∈ wsX8_spans := by decide +kernel
theorem mwX8_spans_6 : (.fieldLink RX8 110 "SumsOverModel" "lineMany" "I" : Cond) ∈ wsX8_spans := by decide +kernel
theorem mwX8_spans_7 : (.fieldLink RX8 38 "SumsOverModel" "line" "[I" : Cond) ∈ wsX8_spans := by decide +kernel
def rmX8_spans : Room := { frames := 5, cells := 0, slots := 0, locals := 125 }
def iX8_spans_L90 (p : Program) (l : Launch) (e : Env) (s : State) (m : MethodId) (args : Array Value) (below : List Frame) (meth : Method) (c : Code) (A : Nat → Prop) (dC : Nat → ClassId) (dI : Nat → Nat → Nat) (q : Nat → Nat) (cI cJ cZ : ClassId) (zn : Int32) (zm : Int32) (zf : Int32) (zr : Int32) (zw : Nat → Int32) (zs : Nat → Int32) (zfr : Nat → Int32) (zto : Nat → Int32) (zk : Nat → Int32) (zt : Nat → Int32) (za : Nat → Int32) (zb : Nat → Int32) (zq : Nat → Int32) (zv : Nat → Int64) (zo : Nat → Int32) (zu : Nat → Int32) (zov : Nat → Int32) (ztu : Nat → Int32) (zsh : Nat → Int32) (zlo : Nat → Int64) (zhi : Nat → Int64)  (RES : (Int32) × (Nat → Int32) × (Nat → Int64) × (Nat → Int64) × (Nat → Int32)) (k : (Int32) → (Nat → Int32) → (Nat → Int64) → (Nat → Int64) → (Nat → Int32) → (Int32) → Option ((Int32) × (Nat → Int32) × (Nat → Int64) × (Nat → Int64) × (Nat → Int32))) : Prop := ∀ (zj : Int32) (zl : Nat → Int32) (zle : Nat → Int64) (zmo : Nat → Int64) (zc : Nat → Int32) (x1 : Int32) (H : Heap) (locs : List Loc) (ls : Array Slot), va_P (dC, dI) vwCl (wM q cI cJ cZ zn zm zj zf zr zw zs zfr zto zk zt za zb zq zl zv zo zu zov ztu zsh zle zmo zc zlo zhi) H → va_D A (wM q cI cJ cZ zn zm zj zf zr zw zs zfr zto zk zt za zb zq zl zv zo zu zov ztu zsh zle zmo zc zlo zhi) → va_S A s.heap H locs → lv_has ls 3 [(0, .ref (q 0)), (1, .int x1)] → k zj zl zle zmo zc x1 = some RES → W p l e rmX8_spans s m args below meth c H locs 0 0 (QV below args s A (dC, dI) (ty3 cI cJ cZ) (wM q cI cJ cZ zn zm RES.1 zf zr zw zs zfr zto zk zt za zb zq RES.2.1 zv zo zu zov ztu zsh RES.2.2.1 RES.2.2.2.1 RES.2.2.2.2 zlo zhi)) (F0 m 90 ls [])
def iX8_spans_L57 (p : Program) (l : Launch) (e : Env) (s : State) (m : MethodId) (args : Array Value) (below : List Frame) (meth : Method) (c : Code) (A : Nat → Prop) (dC : Nat → ClassId) (dI : Nat → Nat → Nat) (q : Nat → Nat) (cI cJ cZ : ClassId) (zn : Int32) (zm : Int32) (zf : Int32) (zr : Int32) (zw : Nat → Int32) (zs : Nat → Int32) (zfr : Nat → Int32) (zto : Nat → Int32) (zk : Nat → Int32) (zt : Nat → Int32) (za : Nat → Int32) (zb : Nat → Int32) (zq : Nat → Int32) (zv : Nat → Int64) (zo : Nat → Int32) (zu : Nat → Int32) (zov : Nat → Int32) (ztu : Nat → Int32) (zsh : Nat → Int32) (zlo : Nat → Int64) (zhi : Nat → Int64)  (RES : (Int32) × (Nat → Int32) × (Nat → Int64) × (Nat → Int64) × (Nat → Int32)) (k : (Int32) → (Nat → Int32) → (Nat → Int64) → (Nat → Int64) → (Nat → Int32) → (Int32) → Option ((Int32) × (Nat → Int32) × (Nat → Int64) × (Nat → Int64) × (Nat → Int32))) : Prop := ∀ (zj : Int32) (zl : Nat → Int32) (zle : Nat → Int64) (zmo : Nat → Int64) (zc : Nat → Int32) (x1 : Int32) (H : Heap) (locs : List Loc) (ls : Array Slot), va_P (dC, dI) vwCl (wM q cI cJ cZ zn zm zj zf zr zw zs zfr zto zk zt za zb zq zl zv zo zu zov ztu zsh zle zmo zc zlo zhi) H → va_D A (wM q cI cJ cZ zn zm zj zf zr zw zs zfr zto zk zt za zb zq zl zv zo zu zov ztu zsh zle zmo zc zlo zhi) → va_S A s.heap H locs → lv_has ls 3 [(0, .ref (q 0)), (1, .int x1)] → k zj zl zle zmo zc x1 = some RES → W p l e rmX8_spans s m args below meth c H locs 0 0 (QV below args s A (dC, dI) (ty3 cI cJ cZ) (wM q cI cJ cZ zn zm RES.1 zf zr zw zs zfr zto zk zt za zb zq RES.2.1 zv zo zu zov ztu zsh RES.2.2.1 RES.2.2.2.1 RES.2.2.2.2 zlo zhi)) (F0 m 57 ls [])
def iX8_spans_L34 (p : Program) (l : Launch) (e : Env) (s : State) (m : MethodId) (args : Array Value) (below : List Frame) (meth : Method) (c : Code) (A : Nat → Prop) (dC : Nat → ClassId) (dI : Nat → Nat → Nat) (q : Nat → Nat) (cI cJ cZ : ClassId) (zn : Int32) (zm : Int32) (zf : Int32) (zr : Int32) (zw : Nat → Int32) (zs : Nat → Int32) (zfr : Nat → Int32) (zto : Nat → Int32) (zk : Nat → Int32) (zt : Nat → Int32) (za : Nat → Int32) (zb : Nat → Int32) (zq : Nat → Int32) (zv : Nat → Int64) (zo : Nat → Int32) (zu : Nat → Int32) (zov : Nat → Int32) (ztu : Nat → Int32) (zsh : Nat → Int32) (zlo : Nat → Int64) (zhi : Nat → Int64)  (RES : (Int32) × (Nat → Int32) × (Nat → Int64) × (Nat → Int64) × (Nat → Int32)) (k : (Int32) → (Nat → Int32) → (Nat → Int64) → (Nat → Int64) → (Nat → Int32) → (Int32) → Option ((Int32) × (Nat → Int32) × (Nat → Int64) × (Nat → Int64) × (Nat → Int32))) : Prop := ∀ (zj : Int32) (zl : Nat → Int32) (zle : Nat → Int64) (zmo : Nat → Int64) (zc : Nat → Int32) (x1 : Int32) (H : Heap) (locs : List Loc) (ls : Array Slot), va_P (dC, dI) vwCl (wM q cI cJ cZ zn zm zj zf zr zw zs zfr zto zk zt za zb zq zl zv zo zu zov ztu zsh zle zmo zc zlo zhi) H → va_D A (wM q cI cJ cZ zn zm zj zf zr zw zs zfr zto zk zt za zb zq zl zv zo zu zov ztu zsh zle zmo zc zlo zhi) → va_S A s.heap H locs → lv_has ls 3 [(0, .ref (q 0)), (1, .int x1)] → k zj zl zle zmo zc x1 = some RES → W p l e rmX8_spans s m args below meth c H locs 0 0 (QV below args s A (dC, dI) (ty3 cI cJ cZ) (wM q cI cJ cZ zn zm RES.1 zf zr zw zs zfr zto zk zt za zb zq RES.2.1 zv zo zu zov ztu zsh RES.2.2.1 RES.2.2.2.1 RES.2.2.2.2 zlo zhi)) (F0 m 34 ls [])
def iX8_spans_L6 (p : Program) (l : Launch) (e : Env) (s : State) (m : MethodId) (args : Array Value) (below : List Frame) (meth : Method) (c : Code) (A : Nat → Prop) (dC : Nat → ClassId) (dI : Nat → Nat → Nat) (q : Nat → Nat) (cI cJ cZ : ClassId) (zn : Int32) (zm : Int32) (zf : Int32) (zr : Int32) (zw : Nat → Int32) (zs : Nat → Int32) (zfr : Nat → Int32) (zto : Nat → Int32) (zk : Nat → Int32) (zt : Nat → Int32) (za : Nat → Int32) (zb : Nat → Int32) (zq : Nat → Int32) (zv : Nat → Int64) (zo : Nat → Int32) (zu : Nat → Int32) (zov : Nat → Int32) (ztu : Nat → Int32) (zsh : Nat → Int32) (zlo : Nat → Int64) (zhi : Nat → Int64)  (RES : (Int32) × (Nat → Int32) × (Nat → Int64) × (Nat → Int64) × (Nat → Int32)) (k : (Int32) → (Nat → Int32) → (Nat → Int64) → (Nat → Int64) → (Nat → Int32) → (Int32) → Option ((Int32) × (Nat → Int32) × (Nat → Int64) × (Nat → Int64) × (Nat → Int32))) : Prop := ∀ (zj : Int32) (zl : Nat → Int32) (zle : Nat → Int64) (zmo : Nat → Int64) (zc : Nat → Int32) (x1 : Int32) (H : Heap) (locs : List Loc) (ls : Array Slot), va_P (dC, dI) vwCl (wM q cI cJ cZ zn zm zj zf zr zw zs zfr zto zk zt za zb zq zl zv zo zu zov ztu zsh zle zmo zc zlo zhi) H → va_D A (wM q cI cJ cZ zn zm zj zf zr zw zs zfr zto zk zt za zb zq zl zv zo zu zov ztu zsh zle zmo zc zlo zhi) → va_S A s.heap H locs → lv_has ls 3 [(0, .ref (q 0)), (1, .int x1)] → k zj zl zle zmo zc x1 = some RES → W p l e rmX8_spans s m args below meth c H locs 0 0 (QV below args s A (dC, dI) (ty3 cI cJ cZ) (wM q cI cJ cZ zn zm RES.1 zf zr zw zs zfr zto zk zt za zb zq RES.2.1 zv zo zu zov ztu zsh RES.2.2.1 RES.2.2.2.1 RES.2.2.2.2 zlo zhi)) (F0 m 6 ls [])
set_option maxHeartbeats 4000000 in
set_option maxRecDepth 100000 in
theorem zX8_spans_L90 {p : Program} {l : Launch} {e : Env} {s : State} {m : MethodId} {args : Array Value} {below : List Frame} {meth : Method} {c : Code} {A : Nat → Prop} {dC : Nat → ClassId} {dI : Nat → Nat → Nat} {q : Nat → Nat} {cI cJ cZ : ClassId} {zn : Int32} {zm : Int32} {zf : Int32} {zr : Int32} {zw : Nat → Int32} {zs : Nat → Int32} {zfr : Nat → Int32} {zto : Nat → Int32} {zk : Nat → Int32} {zt : Nat → Int32} {za : Nat → Int32} {zb : Nat → Int32} {zq : Nat → Int32} {zv : Nat → Int64} {zo : Nat → Int32} {zu : Nat → Int32} {zov : Nat → Int32} {ztu : Nat → Int32} {zsh : Nat → Int32} {zlo : Nat → Int64} {zhi : Nat → Int64}  (C0 : Cx p s m args meth c cX8_spans 3 none RX8 wsX8_spans A (dC, dI) (ty3 cI cJ cZ)) {RES : (Int32) × (Nat → Int32) × (Nat → Int64) × (Nat → Int64) × (Nat → Int32)}  : ∀ n : Nat, iX8_spans_L90 p l e s m args below meth c A dC dI q cI cJ cZ zn zm zf zr zw zs zfr zto zk zt za zb zq zv zo zu zov ztu zsh zlo zhi RES (mX8_spans_L90 zn zm zw zs zfr zto zk zt za zb n) := by
  have C1 := C0
  obtain ⟨hx, hb, hr, hml, hown, hts, hlocks, hN, hK, hA⟩ := C1
  intro n
  induction n with
  | zero =>
    intro zj zl zle zmo zc x1 H locs ls hP hD hS hl hres
    exact mi_0 hres
  | succ n ih =>
    intro zj zl zle zmo zc x1 H locs ls hP hD hS hl hres
    rw [mX8_spans_L90] at hres
    refine lv_iload_n hx hb dX8_spans_90 rfl (lv_at hl 1 rfl) ?_
    refine lv_aload_n hx hb dX8_spans_91 rfl (lv_at hl 0 rfl) ?_
    refine va_get (D := (dC, dI)) (ci := 8) (v := .int zj) (C := RX8) (T := TX8) (N := 26) hx hb hts hwX8_spans_RX8 hown hK hP 0 rfl rfl 12 (by decide) (hts _ mwX8_spans_6) (fun _ h9 => h9) rfl dX8_spans_92 ?_
    refine lv_icmp_ge (tgt := 147) hx hb dX8_spans_95 (by decide) (fun c_9 => ?_) (fun c_9 => ?_)
    · replace hres := mi_p c_9 hres
      obtain rfl := Option.some.inj hres
      exact ret_V C0 hP hD hS dX8_spans_147
    · replace hres := mi_n c_9 hres
      refine lv_aload_n hx hb dX8_spans_98 rfl (lv_at hl 0 rfl) ?_
      refine va_get (D := (dC, dI)) (ci := 8) (v := .ref (q 19)) (C := RX8) (T := TX8) (N := 26) hx hb hts hwX8_spans_RX8 hown hK hP 0 rfl rfl 23 (by decide) (hts _ mwX8_spans_3) (fun _ h9 => h9) rfl dX8_spans_99 ?_
      refine lv_aload_n hx hb dX8_spans_102 rfl (lv_at hl 0 rfl) ?_
      refine va_get (D := (dC, dI)) (ci := 8) (v := .ref (q 10)) (C := RX8) (T := TX8) (N := 26) hx hb hts hwX8_spans_RX8 hown hK hP 0 rfl rfl 11 (by decide) (hts _ mwX8_spans_7) (fun _ h9 => h9) rfl dX8_spans_103 ?_
      refine lv_iload_n hx hb dX8_spans_106 rfl (lv_at hl 1 rfl) ?_
      obtain ⟨g_10, hres⟩ := mi_g hres
      refine va_iald (D := (dC, dI)) (cl := vwCl) hx hb hK hP 10 0 rfl rfl g_10 dX8_spans_107 ?_
      refine lv_aload_n hx hb dX8_spans_108 rfl (lv_at hl 0 rfl) ?_
      refine lv_aload_n hx hb dX8_spans_109 rfl (lv_at hl 0 rfl) ?_
      refine va_get (D := (dC, dI)) (ci := 8) (v := .ref (q 10)) (C := RX8) (T := TX8) (N := 26) hx hb hts hwX8_spans_RX8 hown hK hP 0 rfl rfl 11 (by decide) (hts _ mwX8_spans_7) (fun _ h9 => h9) rfl dX8_spans_110 ?_
      refine lv_iload_n hx hb dX8_spans_113 rfl (lv_at hl 1 rfl) ?_
      refine va_iald (D := (dC, dI)) (cl := vwCl) hx hb hK hP 10 0 rfl rfl g_10 dX8_spans_114 ?_
      obtain ⟨u11, hu11, hres⟩ := mi_b hres
      refine call_I C0 (run_V C0 (rest := [.int (zl (Int32.toNatClampNeg x1)), .ref (q 19)]) (kX8_goes l dC dI q cI cJ cZ zn zm zj zf zr zw zs zfr zto zk zt za zb zq zl zv zo zu zov ztu zsh zle zmo zc zlo zhi  (zl (Int32.toNatClampNeg x1)) u11 hu11 _) (cwV 1 hts gX8_spans_X8_goes rfl rfl rfl (by decide +kernel) ⟨by decide, by decide⟩) hP hD (ci := 8) (q0 := 0) rfl rfl rfl hl.1 rfl (Nat.le_of_ble_eq_true rfl) dX8_spans_115) hD hS (fun H locs hP hD hS => ?_)
      refine lv_if_ne (tgt := 135) hx hb dX8_spans_118 (by decide) (fun c_12 => ?_) (fun c_12 => ?_)
      · replace hres := mi_n c_12 hres
        refine lv_iconst (v := (1 : Int32)) hx hb dX8_spans_135 (by decide) ?_
        refine lv_goto (tgt := 140) hx hb dX8_spans_136 (by decide) ?_
        obtain ⟨g_13, hres⟩ := mi_g hres
        refine va_zast (D := (dC, dI)) (cl := vwCl) hx hb hK hP hD hS 19 2 rfl rfl g_13 dX8_spans_140 (fun H locs hP hD hS => ?_)
        have hP : va_P (dC, dI) vwCl (wM q cI cJ cZ zn zm zj zf zr zw zs zfr zto zk zt za zb zq zl zv zo zu zov ztu zsh u11.2.1 u11.2.2 (upd zc (Int32.toNatClampNeg (zl (Int32.toNatClampNeg x1))) (vp_nar .boolean (1 : Int32))) zlo zhi) H := hP
        have hD : va_D A (wM q cI cJ cZ zn zm zj zf zr zw zs zfr zto zk zt za zb zq zl zv zo zu zov ztu zsh u11.2.1 u11.2.2 (upd zc (Int32.toNatClampNeg (zl (Int32.toNatClampNeg x1))) (vp_nar .boolean (1 : Int32))) zlo zhi) := hD
        refine lv_iinc (v := x1 + (1 : Int32)) (lv' := [(1, .int (x1 + (1 : Int32))), (0, .ref (q 0))]) hx hb dX8_spans_141 hl (k := 1) rfl rfl (by decide) rfl (fun ls hl => ?_)
        refine lv_goto (tgt := 90) hx hb dX8_spans_144 (by decide) ?_
        exact ih zj zl u11.2.1 u11.2.2 (upd zc (Int32.toNatClampNeg (zl (Int32.toNatClampNeg x1))) (vp_nar .boolean (1 : Int32))) (x1 + (1 : Int32)) _ _ ls hP hD hS (lv_sub hl [1, 0] rfl) hres
      · replace hres := mi_p c_12 hres
        refine lv_aload_n hx hb dX8_spans_121 rfl (lv_at hl 0 rfl) ?_
        refine va_get (D := (dC, dI)) (ci := 8) (v := .ref (q 19)) (C := RX8) (T := TX8) (N := 26) hx hb hts hwX8_spans_RX8 hown hK hP 0 rfl rfl 23 (by decide) (hts _ mwX8_spans_3) (fun _ h9 => h9) rfl dX8_spans_122 ?_
        refine lv_aload_n hx hb dX8_spans_125 rfl (lv_at hl 0 rfl) ?_
        refine va_get (D := (dC, dI)) (ci := 8) (v := .ref (q 10)) (C := RX8) (T := TX8) (N := 26) hx hb hts hwX8_spans_RX8 hown hK hP 0 rfl rfl 11 (by decide) (hts _ mwX8_spans_7) (fun _ h9 => h9) rfl dX8_spans_126 ?_
        refine lv_iload_n hx hb dX8_spans_129 rfl (lv_at hl 1 rfl) ?_
        refine va_iald (D := (dC, dI)) (cl := vwCl) hx hb hK hP 10 0 rfl rfl g_10 dX8_spans_130 ?_
        obtain ⟨g_14, hres⟩ := mi_g hres
        refine va_zald (D := (dC, dI)) (cl := vwCl) hx hb hK hP 19 2 rfl rfl g_14 dX8_spans_131 ?_
        refine lv_if_eq (tgt := 139) hx hb dX8_spans_132 (by decide) (fun c_15 => ?_) (fun c_15 => ?_)
        · replace hres := mi_p c_15 hres
          refine lv_iconst (v := (0 : Int32)) hx hb dX8_spans_139 (by decide) ?_
          refine va_zast (D := (dC, dI)) (cl := vwCl) hx hb hK hP hD hS 19 2 rfl rfl g_14 dX8_spans_140 (fun H locs hP hD hS => ?_)
          have hP : va_P (dC, dI) vwCl (wM q cI cJ cZ zn zm zj zf zr zw zs zfr zto zk zt za zb zq zl zv zo zu zov ztu zsh u11.2.1 u11.2.2 (upd zc (Int32.toNatClampNeg (zl (Int32.toNatClampNeg x1))) (vp_nar .boolean (0 : Int32))) zlo zhi) H := hP
          have hD : va_D A (wM q cI cJ cZ zn zm zj zf zr zw zs zfr zto zk zt za zb zq zl zv zo zu zov ztu zsh u11.2.1 u11.2.2 (upd zc (Int32.toNatClampNeg (zl (Int32.toNatClampNeg x1))) (vp_nar .boolean (0 : Int32))) zlo zhi) := hD
          refine lv_iinc (v := x1 + (1 : Int32)) (lv' := [(1, .int (x1 + (1 : Int32))), (0, .ref (q 0))]) hx hb dX8_spans_141 hl (k := 1) rfl rfl (by decide) rfl (fun ls hl => ?_)
          refine lv_goto (tgt := 90) hx hb dX8_spans_144 (by decide) ?_
          exact ih zj zl u11.2.1 u11.2.2 (upd zc (Int32.toNatClampNeg (zl (Int32.toNatClampNeg x1))) (vp_nar .boolean (0 : Int32))) (x1 + (1 : Int32)) _ _ ls hP hD hS (lv_sub hl [1, 0] rfl) hres
        · replace hres := mi_n c_15 hres
          refine lv_iconst (v := (1 : Int32)) hx hb dX8_spans_135 (by decide) ?_
          refine lv_goto (tgt := 140) hx hb dX8_spans_136 (by decide) ?_
          refine va_zast (D := (dC, dI)) (cl := vwCl) hx hb hK hP hD hS 19 2 rfl rfl g_14 dX8_spans_140 (fun H locs hP hD hS => ?_)
          have hP : va_P (dC, dI) vwCl (wM q cI cJ cZ zn zm zj zf zr zw zs zfr zto zk zt za zb zq zl zv zo zu zov ztu zsh u11.2.1 u11.2.2 (upd zc (Int32.toNatClampNeg (zl (Int32.toNatClampNeg x1))) (vp_nar .boolean (1 : Int32))) zlo zhi) H := hP
          have hD : va_D A (wM q cI cJ cZ zn zm zj zf zr zw zs zfr zto zk zt za zb zq zl zv zo zu zov ztu zsh u11.2.1 u11.2.2 (upd zc (Int32.toNatClampNeg (zl (Int32.toNatClampNeg x1))) (vp_nar .boolean (1 : Int32))) zlo zhi) := hD
          refine lv_iinc (v := x1 + (1 : Int32)) (lv' := [(1, .int (x1 + (1 : Int32))), (0, .ref (q 0))]) hx hb dX8_spans_141 hl (k := 1) rfl rfl (by decide) rfl (fun ls hl => ?_)
          refine lv_goto (tgt := 90) hx hb dX8_spans_144 (by decide) ?_
          exact ih zj zl u11.2.1 u11.2.2 (upd zc (Int32.toNatClampNeg (zl (Int32.toNatClampNeg x1))) (vp_nar .boolean (1 : Int32))) (x1 + (1 : Int32)) _ _ ls hP hD hS (lv_sub hl [1, 0] rfl) hres
set_option maxHeartbeats 4000000 in
set_option maxRecDepth 100000 in
theorem zX8_spans_L57 {p : Program} {l : Launch} {e : Env} {s : State} {m : MethodId} {args : Array Value} {below : List Frame} {meth : Method} {c : Code} {A : Nat → Prop} {dC : Nat → ClassId} {dI : Nat → Nat → Nat} {q : Nat → Nat} {cI cJ cZ : ClassId} {zn : Int32} {zm : Int32} {zf : Int32} {zr : Int32} {zw : Nat → Int32} {zs : Nat → Int32} {zfr : Nat → Int32} {zto : Nat → Int32} {zk : Nat → Int32} {zt : Nat → Int32} {za : Nat → Int32} {zb : Nat → Int32} {zq : Nat → Int32} {zv : Nat → Int64} {zo : Nat → Int32} {zu : Nat → Int32} {zov : Nat → Int32} {ztu : Nat → Int32} {zsh : Nat → Int32} {zlo : Nat → Int64} {zhi : Nat → Int64}  (C0 : Cx p s m args meth c cX8_spans 3 none RX8 wsX8_spans A (dC, dI) (ty3 cI cJ cZ)) {RES : (Int32) × (Nat → Int32) × (Nat → Int64) × (Nat → Int64) × (Nat → Int32)}  : ∀ n : Nat, iX8_spans_L57 p l e s m args below meth c A dC dI q cI cJ cZ zn zm zf zr zw zs zfr zto zk zt za zb zq zv zo zu zov ztu zsh zlo zhi RES (mX8_spans_L57 zn zm zw zs zfr zto zk zt za zb n) := by
  have C1 := C0
  obtain ⟨hx, hb, hr, hml, hown, hts, hlocks, hN, hK, hA⟩ := C1
  intro n
  induction n with
  | zero =>
    intro zj zl zle zmo zc x1 H locs ls hP hD hS hl hres
    exact mi_0 hres
  | succ n ih =>
    intro zj zl zle zmo zc x1 H locs ls hP hD hS hl hres
    rw [mX8_spans_L57] at hres
    refine lv_iload_n hx hb dX8_spans_57 rfl (lv_at hl 1 rfl) ?_
    refine lv_iconst (v := (2 : Int32)) hx hb dX8_spans_58 (by decide) ?_
    refine lv_icmp_ge (tgt := 88) hx hb dX8_spans_59 (by decide) (fun c_6 => ?_) (fun c_6 => ?_)
    · replace hres := mi_p c_6 hres
      refine lv_iconst (v := (0 : Int32)) hx hb dX8_spans_88 (by decide) ?_
      refine lv_istore_n (lv' := [(1, .int (0 : Int32)), (0, .ref (q 0))]) hx hb dX8_spans_89 rfl hl (by decide) rfl (fun ls hl => ?_)
      exact zX8_spans_L90 C0  FU zj zl zle zmo zc (0 : Int32) _ _ ls hP hD hS (lv_sub hl [1, 0] rfl) hres
    · replace hres := mi_n c_6 hres
      refine lv_aload_n hx hb dX8_spans_62 rfl (lv_at hl 0 rfl) ?_
      refine lv_iload_n hx hb dX8_spans_63 rfl (lv_at hl 1 rfl) ?_
      refine lv_aload_n hx hb dX8_spans_64 rfl (lv_at hl 0 rfl) ?_
      refine va_get (D := (dC, dI)) (ci := 8) (v := .ref (q 3)) (C := RX8) (T := TX8) (N := 26) hx hb hts hwX8_spans_RX8 hown hK hP 0 rfl rfl 2 (by decide) (hts _ mwX8_spans_4) (fun _ h9 => h9) rfl dX8_spans_65 ?_
      refine lv_iload_n hx hb dX8_spans_68 rfl (lv_at hl 1 rfl) ?_
      obtain ⟨g_7, hres⟩ := mi_g hres
      refine va_iald (D := (dC, dI)) (cl := vwCl) hx hb hK hP 3 0 rfl rfl g_7 dX8_spans_69 ?_
      refine lv_i2l (v := ((zfr (Int32.toNatClampNeg x1))).toInt64) hx hb dX8_spans_70 rfl ?_
      refine lv_aload_n hx hb dX8_spans_71 rfl (lv_at hl 0 rfl) ?_
      refine va_get (D := (dC, dI)) (ci := 8) (v := .ref (q 4)) (C := RX8) (T := TX8) (N := 26) hx hb hts hwX8_spans_RX8 hown hK hP 0 rfl rfl 3 (by decide) (hts _ mwX8_spans_5) (fun _ h9 => h9) rfl dX8_spans_72 ?_
      refine lv_iload_n hx hb dX8_spans_75 rfl (lv_at hl 1 rfl) ?_
      refine va_iald (D := (dC, dI)) (cl := vwCl) hx hb hK hP 4 0 rfl rfl g_7 dX8_spans_76 ?_
      refine lv_i2l (v := ((zto (Int32.toNatClampNeg x1))).toInt64) hx hb dX8_spans_77 rfl ?_
      obtain ⟨u8, hu8, hres⟩ := mi_b hres
      refine call_I C0 (run_V C0 (rest := []) (kX8_ends l dC dI q cI cJ cZ zn zm zj zf zr zw zs zfr zto zk zt za zb zq zl zv zo zu zov ztu zsh zle zmo zc zlo zhi  x1 (((zfr (Int32.toNatClampNeg x1))).toInt64) (((zto (Int32.toNatClampNeg x1))).toInt64) u8 hu8 _) (cwV 3 hts gX8_spans_X8_ends rfl rfl rfl (by decide +kernel) ⟨by decide, by decide⟩) hP hD (ci := 8) (q0 := 0) rfl rfl rfl hl.1 rfl (Nat.le_of_ble_eq_true rfl) dX8_spans_78) hD hS (fun H locs hP hD hS => ?_)
      refine lv_istore_n (lv' := [(2, .int u8.1), (0, .ref (q 0)), (1, .int x1)]) hx hb dX8_spans_81 rfl hl (by decide) rfl (fun ls hl => ?_)
      refine lv_iinc (v := x1 + (1 : Int32)) (lv' := [(1, .int (x1 + (1 : Int32))), (2, .int u8.1), (0, .ref (q 0))]) hx hb dX8_spans_82 hl (k := 2) rfl rfl (by decide) rfl (fun ls hl => ?_)
      refine lv_goto (tgt := 57) hx hb dX8_spans_85 (by decide) ?_
      exact ih zj zl u8.2.1 u8.2.2 zc (x1 + (1 : Int32)) _ _ ls hP hD hS (lv_sub hl [2, 0] rfl) hres
set_option maxHeartbeats 4000000 in
set_option maxRecDepth 100000 in
theorem zX8_spans_L34 {p : Program} {l : Launch} {e : Env} {s : State} {m : MethodId} {args : Array Value} {below : List Frame} {meth : Method} {c : Code} {A : Nat → Prop} {dC : Nat → ClassId} {dI : Nat → Nat → Nat} {q : Nat → Nat} {cI cJ cZ : ClassId} {zn : Int32} {zm : Int32} {zf : Int32} {zr : Int32} {zw : Nat → Int32} {zs : Nat → Int32} {zfr : Nat → Int32} {zto : Nat → Int32} {zk : Nat → Int32} {zt : Nat → Int32} {za : Nat → Int32} {zb : Nat → Int32} {zq : Nat → Int32} {zv : Nat → Int64} {zo : Nat → Int32} {zu : Nat → Int32} {zov : Nat → Int32} {ztu : Nat → Int32} {zsh : Nat → Int32} {zlo : Nat → Int64} {zhi : Nat → Int64}  (C0 : Cx p s m args meth c cX8_spans 3 none RX8 wsX8_spans A (dC, dI) (ty3 cI cJ cZ)) {RES : (Int32) × (Nat → Int32) × (Nat → Int64) × (Nat → Int64) × (Nat → Int32)}  : ∀ n : Nat, iX8_spans_L34 p l e s m args below meth c A dC dI q cI cJ cZ zn zm zf zr zw zs zfr zto zk zt za zb zq zv zo zu zov ztu zsh zlo zhi RES (mX8_spans_L34 zn zm zw zs zfr zto zk zt za zb n) := by
  have C1 := C0
  obtain ⟨hx, hb, hr, hml, hown, hts, hlocks, hN, hK, hA⟩ := C1
  intro n
  induction n with
  | zero =>
    intro zj zl zle zmo zc x1 H locs ls hP hD hS hl hres
    exact mi_0 hres
  | succ n ih =>
    intro zj zl zle zmo zc x1 H locs ls hP hD hS hl hres
    rw [mX8_spans_L34] at hres
    refine lv_iload_n hx hb dX8_spans_34 rfl (lv_at hl 1 rfl) ?_
    refine lv_aload_n hx hb dX8_spans_35 rfl (lv_at hl 0 rfl) ?_
    refine va_get (D := (dC, dI)) (ci := 8) (v := .int zn) (C := RX8) (T := TX8) (N := 26) hx hb hts hwX8_spans_RX8 hown hK hP 0 rfl rfl 9 (by decide) (hts _ mwX8_spans_2) (fun _ h9 => h9) rfl dX8_spans_36 ?_
    refine lv_icmp_ge (tgt := 55) hx hb dX8_spans_39 (by decide) (fun c_4 => ?_) (fun c_4 => ?_)
    · replace hres := mi_p c_4 hres
      refine lv_iconst (v := (0 : Int32)) hx hb dX8_spans_55 (by decide) ?_
      refine lv_istore_n (lv' := [(1, .int (0 : Int32)), (0, .ref (q 0))]) hx hb dX8_spans_56 rfl hl (by decide) rfl (fun ls hl => ?_)
      exact zX8_spans_L57 C0  FU zj zl zle zmo zc (0 : Int32) _ _ ls hP hD hS (lv_sub hl [1, 0] rfl) hres
    · replace hres := mi_n c_4 hres
      refine lv_aload_n hx hb dX8_spans_42 rfl (lv_at hl 0 rfl) ?_
      refine va_get (D := (dC, dI)) (ci := 8) (v := .ref (q 19)) (C := RX8) (T := TX8) (N := 26) hx hb hts hwX8_spans_RX8 hown hK hP 0 rfl rfl 23 (by decide) (hts _ mwX8_spans_3) (fun _ h9 => h9) rfl dX8_spans_43 ?_
      refine lv_iload_n hx hb dX8_spans_46 rfl (lv_at hl 1 rfl) ?_
      refine lv_iconst (v := (0 : Int32)) hx hb dX8_spans_47 (by decide) ?_
      obtain ⟨g_5, hres⟩ := mi_g hres
      refine va_zast (D := (dC, dI)) (cl := vwCl) hx hb hK hP hD hS 19 2 rfl rfl g_5 dX8_spans_48 (fun H locs hP hD hS => ?_)
      have hP : va_P (dC, dI) vwCl (wM q cI cJ cZ zn zm zj zf zr zw zs zfr zto zk zt za zb zq zl zv zo zu zov ztu zsh zle zmo (upd zc (Int32.toNatClampNeg x1) (vp_nar .boolean (0 : Int32))) zlo zhi) H := hP
      have hD : va_D A (wM q cI cJ cZ zn zm zj zf zr zw zs zfr zto zk zt za zb zq zl zv zo zu zov ztu zsh zle zmo (upd zc (Int32.toNatClampNeg x1) (vp_nar .boolean (0 : Int32))) zlo zhi) := hD
      refine lv_iinc (v := x1 + (1 : Int32)) (lv' := [(1, .int (x1 + (1 : Int32))), (0, .ref (q 0))]) hx hb dX8_spans_49 hl (k := 1) rfl rfl (by decide) rfl (fun ls hl => ?_)
      refine lv_goto (tgt := 34) hx hb dX8_spans_52 (by decide) ?_
      exact ih zj zl zle zmo (upd zc (Int32.toNatClampNeg x1) (vp_nar .boolean (0 : Int32))) (x1 + (1 : Int32)) _ _ ls hP hD hS (lv_sub hl [1, 0] rfl) hres
set_option maxHeartbeats 4000000 in
set_option maxRecDepth 100000 in
theorem zX8_spans_L6 {p : Program} {l : Launch} {e : Env} {s : State} {m : MethodId} {args : Array Value} {below : List Frame} {meth : Method} {c : Code} {A : Nat → Prop} {dC : Nat → ClassId} {dI : Nat → Nat → Nat} {q : Nat → Nat} {cI cJ cZ : ClassId} {zn : Int32} {zm : Int32} {zf : Int32} {zr : Int32} {zw : Nat → Int32} {zs : Nat → Int32} {zfr : Nat → Int32} {zto : Nat → Int32} {zk : Nat → Int32} {zt : Nat → Int32} {za : Nat → Int32} {zb : Nat → Int32} {zq : Nat → Int32} {zv : Nat → Int64} {zo : Nat → Int32} {zu : Nat → Int32} {zov : Nat → Int32} {ztu : Nat → Int32} {zsh : Nat → Int32} {zlo : Nat → Int64} {zhi : Nat → Int64}  (C0 : Cx p s m args meth c cX8_spans 3 none RX8 wsX8_spans A (dC, dI) (ty3 cI cJ cZ)) {RES : (Int32) × (Nat → Int32) × (Nat → Int64) × (Nat → Int64) × (Nat → Int32)}  : ∀ n : Nat, iX8_spans_L6 p l e s m args below meth c A dC dI q cI cJ cZ zn zm zf zr zw zs zfr zto zk zt za zb zq zv zo zu zov ztu zsh zlo zhi RES (mX8_spans_L6 zn zm zw zs zfr zto zk zt za zb n) := by
  have C1 := C0
  obtain ⟨hx, hb, hr, hml, hown, hts, hlocks, hN, hK, hA⟩ := C1
  intro n
  induction n with
  | zero =>
    intro zj zl zle zmo zc x1 H locs ls hP hD hS hl hres
    exact mi_0 hres
  | succ n ih =>
    intro zj zl zle zmo zc x1 H locs ls hP hD hS hl hres
    rw [mX8_spans_L6] at hres
    refine lv_iload_n hx hb dX8_spans_6 rfl (lv_at hl 1 rfl) ?_
    refine lv_bipush (v := (6 : Int32)) hx hb dX8_spans_7 (by decide) ?_
    refine lv_icmp_ge (tgt := 32) hx hb dX8_spans_9 (by decide) (fun c_2 => ?_) (fun c_2 => ?_)
    · replace hres := mi_p c_2 hres
      refine lv_iconst (v := (0 : Int32)) hx hb dX8_spans_32 (by decide) ?_
      refine lv_istore_n (lv' := [(1, .int (0 : Int32)), (0, .ref (q 0))]) hx hb dX8_spans_33 rfl hl (by decide) rfl (fun ls hl => ?_)
      exact zX8_spans_L34 C0  FU zj zl zle zmo zc (0 : Int32) _ _ ls hP hD hS (lv_sub hl [1, 0] rfl) hres
    · replace hres := mi_n c_2 hres
      refine lv_aload_n hx hb dX8_spans_12 rfl (lv_at hl 0 rfl) ?_
      refine va_get (D := (dC, dI)) (ci := 8) (v := .ref (q 17)) (C := RX8) (T := TX8) (N := 26) hx hb hts hwX8_spans_RX8 hown hK hP 0 rfl rfl 21 (by decide) (hts _ mwX8_spans_0) (fun _ h9 => h9) rfl dX8_spans_13 ?_
      refine lv_iload_n hx hb dX8_spans_16 rfl (lv_at hl 1 rfl) ?_
      refine lv_lconst (v := (0 : Int64)) hx hb dX8_spans_17 (by decide) ?_
      obtain ⟨g_3, hres⟩ := mi_g hres
      refine va_last (D := (dC, dI)) (cl := vwCl) hx hb hK hP hD hS 17 1 rfl rfl g_3 dX8_spans_18 (fun H locs hP hD hS => ?_)
      have hP : va_P (dC, dI) vwCl (wM q cI cJ cZ zn zm zj zf zr zw zs zfr zto zk zt za zb zq zl zv zo zu zov ztu zsh (vp_updL zle (Int32.toNatClampNeg x1) (0 : Int64)) zmo zc zlo zhi) H := hP
      have hD : va_D A (wM q cI cJ cZ zn zm zj zf zr zw zs zfr zto zk zt za zb zq zl zv zo zu zov ztu zsh (vp_updL zle (Int32.toNatClampNeg x1) (0 : Int64)) zmo zc zlo zhi) := hD
      refine lv_aload_n hx hb dX8_spans_19 rfl (lv_at hl 0 rfl) ?_
      refine va_get (D := (dC, dI)) (ci := 8) (v := .ref (q 18)) (C := RX8) (T := TX8) (N := 26) hx hb hts hwX8_spans_RX8 hown hK hP 0 rfl rfl 22 (by decide) (hts _ mwX8_spans_1) (fun _ h9 => h9) rfl dX8_spans_20 ?_
      refine lv_iload_n hx hb dX8_spans_23 rfl (lv_at hl 1 rfl) ?_
      refine lv_lconst (v := (0 : Int64)) hx hb dX8_spans_24 (by decide) ?_
      refine va_last (D := (dC, dI)) (cl := vwCl) hx hb hK hP hD hS 18 1 rfl rfl g_3 dX8_spans_25 (fun H locs hP hD hS => ?_)
      have hP : va_P (dC, dI) vwCl (wM q cI cJ cZ zn zm zj zf zr zw zs zfr zto zk zt za zb zq zl zv zo zu zov ztu zsh (vp_updL zle (Int32.toNatClampNeg x1) (0 : Int64)) (vp_updL zmo (Int32.toNatClampNeg x1) (0 : Int64)) zc zlo zhi) H := hP
      have hD : va_D A (wM q cI cJ cZ zn zm zj zf zr zw zs zfr zto zk zt za zb zq zl zv zo zu zov ztu zsh (vp_updL zle (Int32.toNatClampNeg x1) (0 : Int64)) (vp_updL zmo (Int32.toNatClampNeg x1) (0 : Int64)) zc zlo zhi) := hD
      refine lv_iinc (v := x1 + (1 : Int32)) (lv' := [(1, .int (x1 + (1 : Int32))), (0, .ref (q 0))]) hx hb dX8_spans_26 hl (k := 1) rfl rfl (by decide) rfl (fun ls hl => ?_)
      refine lv_goto (tgt := 6) hx hb dX8_spans_29 (by decide) ?_
      exact ih zj zl (vp_updL zle (Int32.toNatClampNeg x1) (0 : Int64)) (vp_updL zmo (Int32.toNatClampNeg x1) (0 : Int64)) zc (x1 + (1 : Int32)) _ _ ls hP hD hS (lv_sub hl [1, 0] rfl) hres
set_option maxHeartbeats 4000000 in
set_option maxRecDepth 100000 in
theorem kX8_spans (l : Launch) (dC : Nat → ClassId) (dI : Nat → Nat → Nat) (q : Nat → Nat) (cI cJ cZ : ClassId) (zn : Int32) (zm : Int32) (zj : Int32) (zf : Int32) (zr : Int32) (zw : Nat → Int32) (zs : Nat → Int32) (zfr : Nat → Int32) (zto : Nat → Int32) (zk : Nat → Int32) (zt : Nat → Int32) (za : Nat → Int32) (zb : Nat → Int32) (zq : Nat → Int32) (zl : Nat → Int32) (zv : Nat → Int64) (zo : Nat → Int32) (zu : Nat → Int32) (zov : Nat → Int32) (ztu : Nat → Int32) (zsh : Nat → Int32) (zle : Nat → Int64) (zmo : Nat → Int64) (zc : Nat → Int32) (zlo : Nat → Int64) (zhi : Nat → Int64)  (RES : (Int32) × (Nat → Int32) × (Nat → Int64) × (Nat → Int64) × (Nat → Int32)) (hres : mX8_spans zn zm zj zw zs zfr zto zk zt za zb zl zle zmo zc = some RES) : CtV l yX8_spans wsX8_spans rmX8_spans (dC, dI) (ty3 cI cJ cZ) (wM q cI cJ cZ zn zm zj zf zr zw zs zfr zto zk zt za zb zq zl zv zo zu zov ztu zsh zle zmo zc zlo zhi) [.ref (q 0)] (wM q cI cJ cZ zn zm RES.1 zf zr zw zs zfr zto zk zt za zb zq RES.2.1 zv zo zu zov ztu zsh RES.2.2.1 RES.2.2.2.1 RES.2.2.2.2 zlo zhi) := by
  intro sz
  refine ct_entry (cc := cX8_spans) (maxL := 3) (ret := none) (own := RX8) (by decide) rfl rfl (Nat.le_of_ble_eq_true rfl) (ll := [(0, .ref (q 0))]) rfl ?_
  intro p e s m args below meth c hsz C0 _ hP hD ls hl
  have C1 := C0
  obtain ⟨hx, hb, hr, hml, hown, hts, hlocks, hN, hK, hA⟩ := C1
  have hS : va_S (va_A (wM q cI cJ cZ zn zm zj zf zr zw zs zfr zto zk zt za zb zq zl zv zo zu zov ztu zsh zle zmo zc zlo zhi) sz) s.heap s.heap [] := va_S.rf
  generalize va_A (wM q cI cJ cZ zn zm zj zf zr zw zs zfr zto zk zt za zb zq zl zv zo zu zov ztu zsh zle zmo zc zlo zhi) sz = A at C0 hD hA hS ⊢
  show W p l e rmX8_spans s m args below meth c s.heap [] 0 0 (QV below args s A (dC, dI) (ty3 cI cJ cZ) (wM q cI cJ cZ zn zm RES.1 zf zr zw zs zfr zto zk zt za zb zq RES.2.1 zv zo zu zov ztu zsh RES.2.2.1 RES.2.2.2.1 RES.2.2.2.2 zlo zhi)) (F0 m 0 ls [])
  unfold mX8_spans at hres
  refine lv_aload_n hx hb dX8_spans_0 rfl (lv_at hl 0 rfl) ?_
  obtain ⟨u1, hu1, hres⟩ := mi_b hres
  refine call_V C0 (run_V C0 (rest := []) (kX8_lays l dC dI q cI cJ cZ zn zm zj zf zr zw zs zfr zto zk zt za zb zq zl zv zo zu zov ztu zsh zle zmo zc zlo zhi   u1 hu1 _) (cwV 0 hts gX8_spans_X8_lays rfl rfl rfl (by decide +kernel) ⟨by decide, by decide⟩) hP hD (ci := 8) (q0 := 0) rfl rfl rfl hl.1 rfl (Nat.le_of_ble_eq_true rfl) dX8_spans_1) hD hS (fun H locs hP hD hS => ?_)
  refine lv_iconst (v := (0 : Int32)) hx hb dX8_spans_4 (by decide) ?_
  refine lv_istore_n (lv' := [(1, .int (0 : Int32)), (0, .ref (q 0))]) hx hb dX8_spans_5 rfl hl (by decide) rfl (fun ls hl => ?_)
  exact zX8_spans_L6 C0  FU u1.1 u1.2 zle zmo zc (0 : Int32) _ _ ls hP hD hS (lv_sub hl [1, 0] rfl) hres
/-! ### SumsOverModel.ends(II)I -/
theorem mwX8_ends__0 : (.constant RX8 164 (-2147483648) : Cond) ∈ wsX8_ends_ := by decide +kernel
set_option maxRecDepth 20000 in
theorem hwX8_ends__RX8 : ∀ w ∈ u_ws RX8 TX8 26, w ∈ wsX8_ends_ := by decide +kernel
theorem mwX8_ends__1 : (.fieldLink RX8 63 "SumsOverModel" "most" "[J" : Cond) ∈ wsX8_ends_ := by decide +kernel
theorem mwX8_ends__2 : (.fieldLink RX8 60 "SumsOverModel" "least" "[J" : Cond) ∈ wsX8_ends_ := by decide +kernel
def rmX8_ends_ : Room := { frames := 6, cells := 0, slots := 0, locals := 147 }
set_option maxHeartbeats 4000000 in
set_option maxRecDepth 100000 in
theorem kX8_ends_ (l : Launch) (dC : Nat → ClassId) (dI : Nat → Nat → Nat) (q : Nat → Nat) (cI cJ cZ : ClassId) (zn : Int32) (zm : Int32) (zj : Int32) (zf : Int32) (zr : Int32) (zw : Nat → Int32) (zs : Nat → Int32) (zfr : Nat → Int32) (zto : Nat → Int32) (zk : Nat → Int32) (zt : Nat → Int32) (za : Nat → Int32) (zb : Nat → Int32) (zq : Nat → Int32) (zl : Nat → Int32) (zv : Nat → Int64) (zo : Nat → Int32) (zu : Nat → Int32) (zov : Nat → Int32) (ztu : Nat → Int32) (zsh : Nat → Int32) (zle : Nat → Int64) (zmo : Nat → Int64) (zc : Nat → Int32) (zlo : Nat → Int64) (zhi : Nat → Int64) (x1 : Int32) (x2 : Int32) (RES : Int32 × (Int32) × (Nat → Int32) × (Nat → Int64) × (Nat → Int64) × (Nat → Int32)) (hres : mX8_ends_ zn zm zj zw zs zfr zto zk zt za zb zl zle zmo zc x1 x2 = some RES) : CtI l yX8_ends_ wsX8_ends_ rmX8_ends_ (dC, dI) (ty3 cI cJ cZ) (wM q cI cJ cZ zn zm zj zf zr zw zs zfr zto zk zt za zb zq zl zv zo zu zov ztu zsh zle zmo zc zlo zhi) [.ref (q 0), .int x1, .int x2] RES.1 (wM q cI cJ cZ zn zm RES.2.1 zf zr zw zs zfr zto zk zt za zb zq RES.2.2.1 zv zo zu zov ztu zsh RES.2.2.2.1 RES.2.2.2.2.1 RES.2.2.2.2.2 zlo zhi) := by
  intro sz
  refine ct_entry (cc := cX8_ends_) (maxL := 3) (ret := some .int) (own := RX8) (by decide) rfl rfl (Nat.le_of_ble_eq_true rfl) (ll := [(0, .ref (q 0)), (1, .int x1), (2, .int x2)]) rfl ?_
  intro p e s m args below meth c hsz C0 _ hP hD ls hl
  have C1 := C0
  obtain ⟨hx, hb, hr, hml, hown, hts, hlocks, hN, hK, hA⟩ := C1
  have hS : va_S (va_A (wM q cI cJ cZ zn zm zj zf zr zw zs zfr zto zk zt za zb zq zl zv zo zu zov ztu zsh zle zmo zc zlo zhi) sz) s.heap s.heap [] := va_S.rf
  generalize va_A (wM q cI cJ cZ zn zm zj zf zr zw zs zfr zto zk zt za zb zq zl zv zo zu zov ztu zsh zle zmo zc zlo zhi) sz = A at C0 hD hA hS ⊢
  show W p l e rmX8_ends_ s m args below meth c s.heap [] 0 0 (QI below args s A (dC, dI) (ty3 cI cJ cZ) RES.1 (wM q cI cJ cZ zn zm RES.2.1 zf zr zw zs zfr zto zk zt za zb zq RES.2.2.1 zv zo zu zov ztu zsh RES.2.2.2.1 RES.2.2.2.2.1 RES.2.2.2.2.2 zlo zhi)) (F0 m 0 ls [])
  unfold mX8_ends_ at hres
  refine lv_iload_n hx hb dX8_ends__0 rfl (lv_at hl 1 rfl) ?_
  obtain ⟨u1, hu1, hres⟩ := mi_b hres
  refine call_I C0 (run_S C0 (rest := []) (kX8_isName l (dC, dI) (ty3 cI cJ cZ) (wM q cI cJ cZ zn zm zj zf zr zw zs zfr zto zk zt za zb zq zl zv zo zu zov ztu zsh zle zmo zc zlo zhi) x1 u1 hu1 _) (va_cwS 1 hts gX8_ends__X8_isName rfl rfl rfl (by decide +kernel) ⟨by decide, by decide⟩) hP hD rfl hl.1 rfl (Nat.le_of_ble_eq_true rfl) dX8_ends__1) hD hS (fun H locs hP hD hS => ?_)
  refine lv_if_eq (tgt := 17) hx hb dX8_ends__4 (by decide) (fun c_2 => ?_) (fun c_2 => ?_)
  · replace hres := mi_p c_2 hres
    refine lv_ldc (own := RX8) (v := (-2147483648 : Int32)) hx hb hown (hts _ mwX8_ends__0) dX8_ends__17 ?_
    obtain rfl := Option.some.inj hres
    exact ret_I (r := (-2147483648 : Int32)) C0 rfl hP hD hS dX8_ends__19
  · replace hres := mi_n c_2 hres
    refine lv_iload_n hx hb dX8_ends__7 rfl (lv_at hl 2 rfl) ?_
    refine lv_i2l (v := (x2).toInt64) hx hb dX8_ends__8 rfl ?_
    refine lv_lconst (v := (0 : Int64)) hx hb dX8_ends__9 (by decide) ?_
    refine lv_lconst (v := (1 : Int64)) hx hb dX8_ends__10 (by decide) ?_
    obtain ⟨u3, hu3, hres⟩ := mi_b hres
    refine call_I C0 (run_S C0 (rest := []) (kX8_in l (dC, dI) (ty3 cI cJ cZ) (wM q cI cJ cZ zn zm zj zf zr zw zs zfr zto zk zt za zb zq zl zv zo zu zov ztu zsh zle zmo zc zlo zhi) ((x2).toInt64) (0 : Int64) (1 : Int64) u3 hu3 _) (va_cwS 3 hts gX8_ends__X8_in rfl rfl rfl (by decide +kernel) ⟨by decide, by decide⟩) hP hD rfl hl.1 rfl (Nat.le_of_ble_eq_true rfl) dX8_ends__11) hD hS (fun H locs hP hD hS => ?_)
    refine lv_if_ne (tgt := 20) hx hb dX8_ends__14 (by decide) (fun c_4 => ?_) (fun c_4 => ?_)
    · replace hres := mi_n c_4 hres
      refine lv_aload_n hx hb dX8_ends__20 rfl (lv_at hl 0 rfl) ?_
      obtain ⟨u5, hu5, hres⟩ := mi_b hres
      refine call_V C0 (run_V C0 (rest := []) (kX8_spans l dC dI q cI cJ cZ zn zm zj zf zr zw zs zfr zto zk zt za zb zq zl zv zo zu zov ztu zsh zle zmo zc zlo zhi   u5 hu5 _) (cwV 0 hts gX8_ends__X8_spans rfl rfl rfl (by decide +kernel) ⟨by decide, by decide⟩) hP hD (ci := 8) (q0 := 0) rfl rfl rfl hl.1 rfl (Nat.le_of_ble_eq_true rfl) dX8_ends__21) hD hS (fun H locs hP hD hS => ?_)
      refine lv_iload_n hx hb dX8_ends__24 rfl (lv_at hl 2 rfl) ?_
      refine lv_if_ne (tgt := 37) hx hb dX8_ends__25 (by decide) (fun c_6 => ?_) (fun c_6 => ?_)
      · replace hres := mi_n c_6 hres
        refine lv_aload_n hx hb dX8_ends__37 rfl (lv_at hl 0 rfl) ?_
        refine va_get (D := (dC, dI)) (ci := 8) (v := .ref (q 18)) (C := RX8) (T := TX8) (N := 26) hx hb hts hwX8_ends__RX8 hown hK hP 0 rfl rfl 22 (by decide) (hts _ mwX8_ends__1) (fun _ h9 => h9) rfl dX8_ends__38 ?_
        refine lv_iload_n hx hb dX8_ends__41 rfl (lv_at hl 1 rfl) ?_
        obtain ⟨g_7, hres⟩ := mi_g hres
        refine va_lald (D := (dC, dI)) (cl := vwCl) hx hb hK hP 18 1 rfl rfl g_7 dX8_ends__42 ?_
        refine lv_l2i (v := ((u5.2.2.2.1 (Int32.toNatClampNeg x1))).toInt32) hx hb dX8_ends__43 rfl ?_
        obtain rfl := Option.some.inj hres
        exact ret_I (r := (((u5.2.2.2.1 (Int32.toNatClampNeg x1))).toInt32)) C0 rfl hP hD hS dX8_ends__44
      · replace hres := mi_p c_6 hres
        refine lv_aload_n hx hb dX8_ends__28 rfl (lv_at hl 0 rfl) ?_
        refine va_get (D := (dC, dI)) (ci := 8) (v := .ref (q 17)) (C := RX8) (T := TX8) (N := 26) hx hb hts hwX8_ends__RX8 hown hK hP 0 rfl rfl 21 (by decide) (hts _ mwX8_ends__2) (fun _ h9 => h9) rfl dX8_ends__29 ?_
        refine lv_iload_n hx hb dX8_ends__32 rfl (lv_at hl 1 rfl) ?_
        obtain ⟨g_8, hres⟩ := mi_g hres
        refine va_lald (D := (dC, dI)) (cl := vwCl) hx hb hK hP 17 1 rfl rfl g_8 dX8_ends__33 ?_
        refine lv_goto (tgt := 43) hx hb dX8_ends__34 (by decide) ?_
        refine lv_l2i (v := ((u5.2.2.1 (Int32.toNatClampNeg x1))).toInt32) hx hb dX8_ends__43 rfl ?_
        obtain rfl := Option.some.inj hres
        exact ret_I (r := (((u5.2.2.1 (Int32.toNatClampNeg x1))).toInt32)) C0 rfl hP hD hS dX8_ends__44
    · replace hres := mi_p c_4 hres
      refine lv_ldc (own := RX8) (v := (-2147483648 : Int32)) hx hb hown (hts _ mwX8_ends__0) dX8_ends__17 ?_
      obtain rfl := Option.some.inj hres
      exact ret_I (r := (-2147483648 : Int32)) C0 rfl hP hD hS dX8_ends__19
/-! ### SumsOverModel.judged(I)I -/
set_option maxRecDepth 20000 in
theorem hwX8_judged_RX8 : ∀ w ∈ u_ws RX8 TX8 26, w ∈ wsX8_judged := by decide +kernel
theorem mwX8_judged_0 : (.fieldLink RX8 66 "SumsOverModel" "could" "[Z" : Cond) ∈ wsX8_judged := by decide +kernel
theorem mwX8_judged_1 : (.fieldLink RX8 51 "SumsOverModel" "overs" "[I" : Cond) ∈ wsX8_judged := by decide +kernel
def rmX8_judged : Room := { frames := 1, cells := 0, slots := 0, locals := 20 }
set_option maxHeartbeats 4000000 in
set_option maxRecDepth 100000 in
theorem kX8_judged (l : Launch) (dC : Nat → ClassId) (dI : Nat → Nat → Nat) (q : Nat → Nat) (cI cJ cZ : ClassId) (zn : Int32) (zm : Int32) (zj : Int32) (zf : Int32) (zr : Int32) (zw : Nat → Int32) (zs : Nat → Int32) (zfr : Nat → Int32) (zto : Nat → Int32) (zk : Nat → Int32) (zt : Nat → Int32) (za : Nat → Int32) (zb : Nat → Int32) (zq : Nat → Int32) (zl : Nat → Int32) (zv : Nat → Int64) (zo : Nat → Int32) (zu : Nat → Int32) (zov : Nat → Int32) (ztu : Nat → Int32) (zsh : Nat → Int32) (zle : Nat → Int64) (zmo : Nat → Int64) (zc : Nat → Int32) (zlo : Nat → Int64) (zhi : Nat → Int64) (x1 : Int32) (RES : Int32) (hres : mX8_judged zfr zto zov zc x1 = some RES) : CtI l yX8_judged wsX8_judged rmX8_judged (dC, dI) (ty3 cI cJ cZ) (wM q cI cJ cZ zn zm zj zf zr zw zs zfr zto zk zt za zb zq zl zv zo zu zov ztu zsh zle zmo zc zlo zhi) [.ref (q 0), .int x1] RES (wM q cI cJ cZ zn zm zj zf zr zw zs zfr zto zk zt za zb zq zl zv zo zu zov ztu zsh zle zmo zc zlo zhi) := by
  intro sz
  refine ct_entry (cc := cX8_judged) (maxL := 2) (ret := some .int) (own := RX8) (by decide) rfl rfl (Nat.le_of_ble_eq_true rfl) (ll := [(0, .ref (q 0)), (1, .int x1)]) rfl ?_
  intro p e s m args below meth c hsz C0 _ hP hD ls hl
  have C1 := C0
  obtain ⟨hx, hb, hr, hml, hown, hts, hlocks, hN, hK, hA⟩ := C1
  have hS : va_S (va_A (wM q cI cJ cZ zn zm zj zf zr zw zs zfr zto zk zt za zb zq zl zv zo zu zov ztu zsh zle zmo zc zlo zhi) sz) s.heap s.heap [] := va_S.rf
  generalize va_A (wM q cI cJ cZ zn zm zj zf zr zw zs zfr zto zk zt za zb zq zl zv zo zu zov ztu zsh zle zmo zc zlo zhi) sz = A at C0 hD hA hS ⊢
  show W p l e rmX8_judged s m args below meth c s.heap [] 0 0 (QI below args s A (dC, dI) (ty3 cI cJ cZ) RES (wM q cI cJ cZ zn zm zj zf zr zw zs zfr zto zk zt za zb zq zl zv zo zu zov ztu zsh zle zmo zc zlo zhi)) (F0 m 0 ls [])
  unfold mX8_judged at hres
  refine lv_aload_n hx hb dX8_judged_0 rfl (lv_at hl 0 rfl) ?_
  refine va_get (D := (dC, dI)) (ci := 8) (v := .ref (q 19)) (C := RX8) (T := TX8) (N := 26) hx hb hts hwX8_judged_RX8 hown hK hP 0 rfl rfl 23 (by decide) (hts _ mwX8_judged_0) (fun _ h9 => h9) rfl dX8_judged_1 ?_
  refine lv_iload_n hx hb dX8_judged_4 rfl (lv_at hl 1 rfl) ?_
  obtain ⟨g_1, hres⟩ := mi_g hres
  refine va_zald (D := (dC, dI)) (cl := vwCl) hx hb hK hP 19 2 rfl rfl g_1 dX8_judged_5 ?_
  refine lv_if_ne (tgt := 11) hx hb dX8_judged_6 (by decide) (fun c_2 => ?_) (fun c_2 => ?_)
  · replace hres := mi_n c_2 hres
    refine lv_aload_n hx hb dX8_judged_11 rfl (lv_at hl 0 rfl) ?_
    refine va_get (D := (dC, dI)) (ci := 8) (v := .ref (q 14)) (C := RX8) (T := TX8) (N := 26) hx hb hts hwX8_judged_RX8 hown hK hP 0 rfl rfl 17 (by decide) (hts _ mwX8_judged_1) (fun _ h9 => h9) rfl dX8_judged_12 ?_
    refine lv_iload_n hx hb dX8_judged_15 rfl (lv_at hl 1 rfl) ?_
    refine va_iald (D := (dC, dI)) (cl := vwCl) hx hb hK hP 14 0 rfl rfl g_1 dX8_judged_16 ?_
    refine lv_if_ne (tgt := 24) hx hb dX8_judged_17 (by decide) (fun c_3 => ?_) (fun c_3 => ?_)
    · replace hres := mi_n c_3 hres
      refine lv_aload_n hx hb dX8_judged_24 rfl (lv_at hl 0 rfl) ?_
      refine va_get (D := (dC, dI)) (ci := 8) (v := .ref (q 14)) (C := RX8) (T := TX8) (N := 26) hx hb hts hwX8_judged_RX8 hown hK hP 0 rfl rfl 17 (by decide) (hts _ mwX8_judged_1) (fun _ h9 => h9) rfl dX8_judged_25 ?_
      refine lv_iload_n hx hb dX8_judged_28 rfl (lv_at hl 1 rfl) ?_
      refine va_iald (D := (dC, dI)) (cl := vwCl) hx hb hK hP 14 0 rfl rfl g_1 dX8_judged_29 ?_
      refine lv_aload_n hx hb dX8_judged_30 rfl (lv_at hl 0 rfl) ?_
      obtain ⟨u4, hu4, hres⟩ := mi_b hres
      refine call_I C0 (run_V C0 (rest := [.int (zov (Int32.toNatClampNeg x1))]) (kX8_many l dC dI q cI cJ cZ zn zm zj zf zr zw zs zfr zto zk zt za zb zq zl zv zo zu zov ztu zsh zle zmo zc zlo zhi   u4 hu4 _) (cwV 0 hts gX8_judged_X8_many rfl rfl rfl (by decide +kernel) ⟨by decide, by decide⟩) hP hD (ci := 8) (q0 := 0) rfl rfl rfl hl.1 rfl (Nat.le_of_ble_eq_true rfl) dX8_judged_31) hD hS (fun H locs hP hD hS => ?_)
      refine lv_icmp_ne (tgt := 41) hx hb dX8_judged_34 (by decide) (fun c_5 => ?_) (fun c_5 => ?_)
      · replace hres := mi_n c_5 hres
        refine lv_iconst (v := (2 : Int32)) hx hb dX8_judged_41 (by decide) ?_
        obtain rfl := Option.some.inj hres
        exact ret_I (r := (2 : Int32)) C0 rfl hP hD hS dX8_judged_42
      · replace hres := mi_p c_5 hres
        refine lv_iconst (v := (3 : Int32)) hx hb dX8_judged_37 (by decide) ?_
        refine lv_goto (tgt := 42) hx hb dX8_judged_38 (by decide) ?_
        obtain rfl := Option.some.inj hres
        exact ret_I (r := (3 : Int32)) C0 rfl hP hD hS dX8_judged_42
    · replace hres := mi_p c_3 hres
      refine lv_iconst (v := (1 : Int32)) hx hb dX8_judged_20 (by decide) ?_
      refine lv_goto (tgt := 42) hx hb dX8_judged_21 (by decide) ?_
      obtain rfl := Option.some.inj hres
      exact ret_I (r := (1 : Int32)) C0 rfl hP hD hS dX8_judged_42
  · replace hres := mi_p c_2 hres
    refine lv_iconst (v := (0 : Int32)) hx hb dX8_judged_9 (by decide) ?_
    obtain rfl := Option.some.inj hres
    exact ret_I (r := (0 : Int32)) C0 rfl hP hD hS dX8_judged_10
/-! ### SumsOverModel.judge(I)I -/
def rmX8_judge : Room := { frames := 6, cells := 0, slots := 0, locals := 147 }
set_option maxHeartbeats 4000000 in
set_option maxRecDepth 100000 in
theorem kX8_judge (l : Launch) (dC : Nat → ClassId) (dI : Nat → Nat → Nat) (q : Nat → Nat) (cI cJ cZ : ClassId) (zn : Int32) (zm : Int32) (zj : Int32) (zf : Int32) (zr : Int32) (zw : Nat → Int32) (zs : Nat → Int32) (zfr : Nat → Int32) (zto : Nat → Int32) (zk : Nat → Int32) (zt : Nat → Int32) (za : Nat → Int32) (zb : Nat → Int32) (zq : Nat → Int32) (zl : Nat → Int32) (zv : Nat → Int64) (zo : Nat → Int32) (zu : Nat → Int32) (zov : Nat → Int32) (ztu : Nat → Int32) (zsh : Nat → Int32) (zle : Nat → Int64) (zmo : Nat → Int64) (zc : Nat → Int32) (zlo : Nat → Int64) (zhi : Nat → Int64) (x1 : Int32) (RES : Int32 × (Int32) × (Int32) × (Int32) × (Nat → Int32) × (Nat → Int64) × (Nat → Int32) × (Nat → Int32) × (Nat → Int32) × (Nat → Int32) × (Nat → Int32) × (Nat → Int64) × (Nat → Int64) × (Nat → Int32)) (hres : mX8_judge zn zm zj zf zr zw zs zfr zto zk zt za zb zl zv zo zu zov ztu zsh zle zmo zc x1 = some RES) : CtI l yX8_judge wsX8_judge rmX8_judge (dC, dI) (ty3 cI cJ cZ) (wM q cI cJ cZ zn zm zj zf zr zw zs zfr zto zk zt za zb zq zl zv zo zu zov ztu zsh zle zmo zc zlo zhi) [.ref (q 0), .int x1] RES.1 (wM q cI cJ cZ zn zm RES.2.1 RES.2.2.1 RES.2.2.2.1 zw zs zfr zto zk zt za zb zq RES.2.2.2.2.1 RES.2.2.2.2.2.1 RES.2.2.2.2.2.2.1 RES.2.2.2.2.2.2.2.1 RES.2.2.2.2.2.2.2.2.1 RES.2.2.2.2.2.2.2.2.2.1 RES.2.2.2.2.2.2.2.2.2.2.1 RES.2.2.2.2.2.2.2.2.2.2.2.1 RES.2.2.2.2.2.2.2.2.2.2.2.2.1 RES.2.2.2.2.2.2.2.2.2.2.2.2.2 zlo zhi) := by
  intro sz
  refine ct_entry (cc := cX8_judge) (maxL := 2) (ret := some .int) (own := RX8) (by decide) rfl rfl (Nat.le_of_ble_eq_true rfl) (ll := [(0, .ref (q 0)), (1, .int x1)]) rfl ?_
  intro p e s m args below meth c hsz C0 _ hP hD ls hl
  have C1 := C0
  obtain ⟨hx, hb, hr, hml, hown, hts, hlocks, hN, hK, hA⟩ := C1
  have hS : va_S (va_A (wM q cI cJ cZ zn zm zj zf zr zw zs zfr zto zk zt za zb zq zl zv zo zu zov ztu zsh zle zmo zc zlo zhi) sz) s.heap s.heap [] := va_S.rf
  generalize va_A (wM q cI cJ cZ zn zm zj zf zr zw zs zfr zto zk zt za zb zq zl zv zo zu zov ztu zsh zle zmo zc zlo zhi) sz = A at C0 hD hA hS ⊢
  show W p l e rmX8_judge s m args below meth c s.heap [] 0 0 (QI below args s A (dC, dI) (ty3 cI cJ cZ) RES.1 (wM q cI cJ cZ zn zm RES.2.1 RES.2.2.1 RES.2.2.2.1 zw zs zfr zto zk zt za zb zq RES.2.2.2.2.1 RES.2.2.2.2.2.1 RES.2.2.2.2.2.2.1 RES.2.2.2.2.2.2.2.1 RES.2.2.2.2.2.2.2.2.1 RES.2.2.2.2.2.2.2.2.2.1 RES.2.2.2.2.2.2.2.2.2.2.1 RES.2.2.2.2.2.2.2.2.2.2.2.1 RES.2.2.2.2.2.2.2.2.2.2.2.2.1 RES.2.2.2.2.2.2.2.2.2.2.2.2.2 zlo zhi)) (F0 m 0 ls [])
  unfold mX8_judge at hres
  refine lv_aload_n hx hb dX8_judge_0 rfl (lv_at hl 0 rfl) ?_
  refine lv_iload_n hx hb dX8_judge_1 rfl (lv_at hl 1 rfl) ?_
  obtain ⟨u1, hu1, hres⟩ := mi_b hres
  refine call_I C0 (run_V C0 (rest := []) (kX8_isStep l dC dI q cI cJ cZ zn zm zj zf zr zw zs zfr zto zk zt za zb zq zl zv zo zu zov ztu zsh zle zmo zc zlo zhi  x1 u1 hu1 _) (cwV 1 hts gX8_judge_X8_isStep rfl rfl rfl (by decide +kernel) ⟨by decide, by decide⟩) hP hD (ci := 8) (q0 := 0) rfl rfl rfl hl.1 rfl (Nat.le_of_ble_eq_true rfl) dX8_judge_2) hD hS (fun H locs hP hD hS => ?_)
  refine lv_if_ne (tgt := 10) hx hb dX8_judge_5 (by decide) (fun c_2 => ?_) (fun c_2 => ?_)
  · replace hres := mi_n c_2 hres
    refine lv_aload_n hx hb dX8_judge_10 rfl (lv_at hl 0 rfl) ?_
    obtain ⟨u3, hu3, hres⟩ := mi_b hres
    refine call_V C0 (run_V C0 (rest := []) (kX8_spans l dC dI q cI cJ cZ zn zm zj zf zr zw zs zfr zto zk zt za zb zq zl zv zo zu zov ztu zsh zle zmo zc zlo zhi   u3 hu3 _) (cwV 0 hts gX8_judge_X8_spans rfl rfl rfl (by decide +kernel) ⟨by decide, by decide⟩) hP hD (ci := 8) (q0 := 0) rfl rfl rfl hl.1 rfl (Nat.le_of_ble_eq_true rfl) dX8_judge_11) hD hS (fun H locs hP hD hS => ?_)
    refine lv_aload_n hx hb dX8_judge_14 rfl (lv_at hl 0 rfl) ?_
    obtain ⟨u4, hu4, hres⟩ := mi_b hres
    refine call_V C0 (run_V C0 (rest := []) (kX8_all l dC dI q cI cJ cZ zn zm u3.1 zf zr zw zs zfr zto zk zt za zb zq u3.2.1 zv zo zu zov ztu zsh u3.2.2.1 u3.2.2.2.1 u3.2.2.2.2 zlo zhi   u4 hu4 _) (cwV 0 hts gX8_judge_X8_all rfl rfl rfl (by decide +kernel) ⟨by decide, by decide⟩) hP hD (ci := 8) (q0 := 0) rfl rfl rfl hl.1 rfl (Nat.le_of_ble_eq_true rfl) dX8_judge_15) hD hS (fun H locs hP hD hS => ?_)
    refine lv_aload_n hx hb dX8_judge_18 rfl (lv_at hl 0 rfl) ?_
    refine lv_iload_n hx hb dX8_judge_19 rfl (lv_at hl 1 rfl) ?_
    obtain ⟨u5, hu5, hres⟩ := mi_b hres
    refine call_I C0 (run_V C0 (rest := []) (kX8_judged l dC dI q cI cJ cZ zn zm u4.1 u4.2.1 u4.2.2.1 zw zs zfr zto zk zt za zb zq u4.2.2.2.1 u4.2.2.2.2.1 u4.2.2.2.2.2.1 u4.2.2.2.2.2.2.1 u4.2.2.2.2.2.2.2.1 u4.2.2.2.2.2.2.2.2.1 u4.2.2.2.2.2.2.2.2.2 u3.2.2.1 u3.2.2.2.1 u3.2.2.2.2 zlo zhi  x1 u5 hu5 _) (cwV 1 hts gX8_judge_X8_judged rfl rfl rfl (by decide +kernel) ⟨by decide, by decide⟩) hP hD (ci := 8) (q0 := 0) rfl rfl rfl hl.1 rfl (Nat.le_of_ble_eq_true rfl) dX8_judge_20) hD hS (fun H locs hP hD hS => ?_)
    obtain rfl := Option.some.inj hres
    exact ret_I (r := u5) C0 rfl hP hD hS dX8_judge_23
  · replace hres := mi_p c_2 hres
    refine lv_iconst (v := (-1 : Int32)) hx hb dX8_judge_8 (by decide) ?_
    obtain rfl := Option.some.inj hres
    exact ret_I (r := (-1 : Int32)) C0 rfl hP hD hS dX8_judge_9
/-! ### SumsOverModel.over(I)I -/
set_option maxRecDepth 20000 in
theorem hwX8_over_RX8 : ∀ w ∈ u_ws RX8 TX8 26, w ∈ wsX8_over := by decide +kernel
theorem mwX8_over_0 : (.fieldLink RX8 51 "SumsOverModel" "overs" "[I" : Cond) ∈ wsX8_over := by decide +kernel
def rmX8_over : Room := { frames := 5, cells := 0, slots := 0, locals := 122 }
set_option maxHeartbeats 4000000 in
set_option maxRecDepth 100000 in
theorem kX8_over (l : Launch) (dC : Nat → ClassId) (dI : Nat → Nat → Nat) (q : Nat → Nat) (cI cJ cZ : ClassId) (zn : Int32) (zm : Int32) (zj : Int32) (zf : Int32) (zr : Int32) (zw : Nat → Int32) (zs : Nat → Int32) (zfr : Nat → Int32) (zto : Nat → Int32) (zk : Nat → Int32) (zt : Nat → Int32) (za : Nat → Int32) (zb : Nat → Int32) (zq : Nat → Int32) (zl : Nat → Int32) (zv : Nat → Int64) (zo : Nat → Int32) (zu : Nat → Int32) (zov : Nat → Int32) (ztu : Nat → Int32) (zsh : Nat → Int32) (zle : Nat → Int64) (zmo : Nat → Int64) (zc : Nat → Int32) (zlo : Nat → Int64) (zhi : Nat → Int64) (x1 : Int32) (RES : Int32 × (Int32) × (Int32) × (Int32) × (Nat → Int32) × (Nat → Int64) × (Nat → Int32) × (Nat → Int32) × (Nat → Int32) × (Nat → Int32) × (Nat → Int32)) (hres : mX8_over zn zm zj zf zr zw zs zfr zto zk zt za zb zl zv zo zu zov ztu zsh x1 = some RES) : CtI l yX8_over wsX8_over rmX8_over (dC, dI) (ty3 cI cJ cZ) (wM q cI cJ cZ zn zm zj zf zr zw zs zfr zto zk zt za zb zq zl zv zo zu zov ztu zsh zle zmo zc zlo zhi) [.ref (q 0), .int x1] RES.1 (wM q cI cJ cZ zn zm RES.2.1 RES.2.2.1 RES.2.2.2.1 zw zs zfr zto zk zt za zb zq RES.2.2.2.2.1 RES.2.2.2.2.2.1 RES.2.2.2.2.2.2.1 RES.2.2.2.2.2.2.2.1 RES.2.2.2.2.2.2.2.2.1 RES.2.2.2.2.2.2.2.2.2.1 RES.2.2.2.2.2.2.2.2.2.2 zle zmo zc zlo zhi) := by
  intro sz
  refine ct_entry (cc := cX8_over) (maxL := 2) (ret := some .int) (own := RX8) (by decide) rfl rfl (Nat.le_of_ble_eq_true rfl) (ll := [(0, .ref (q 0)), (1, .int x1)]) rfl ?_
  intro p e s m args below meth c hsz C0 _ hP hD ls hl
  have C1 := C0
  obtain ⟨hx, hb, hr, hml, hown, hts, hlocks, hN, hK, hA⟩ := C1
  have hS : va_S (va_A (wM q cI cJ cZ zn zm zj zf zr zw zs zfr zto zk zt za zb zq zl zv zo zu zov ztu zsh zle zmo zc zlo zhi) sz) s.heap s.heap [] := va_S.rf
  generalize va_A (wM q cI cJ cZ zn zm zj zf zr zw zs zfr zto zk zt za zb zq zl zv zo zu zov ztu zsh zle zmo zc zlo zhi) sz = A at C0 hD hA hS ⊢
  show W p l e rmX8_over s m args below meth c s.heap [] 0 0 (QI below args s A (dC, dI) (ty3 cI cJ cZ) RES.1 (wM q cI cJ cZ zn zm RES.2.1 RES.2.2.1 RES.2.2.2.1 zw zs zfr zto zk zt za zb zq RES.2.2.2.2.1 RES.2.2.2.2.2.1 RES.2.2.2.2.2.2.1 RES.2.2.2.2.2.2.2.1 RES.2.2.2.2.2.2.2.2.1 RES.2.2.2.2.2.2.2.2.2.1 RES.2.2.2.2.2.2.2.2.2.2 zle zmo zc zlo zhi)) (F0 m 0 ls [])
  unfold mX8_over at hres
  refine lv_aload_n hx hb dX8_over_0 rfl (lv_at hl 0 rfl) ?_
  refine lv_iload_n hx hb dX8_over_1 rfl (lv_at hl 1 rfl) ?_
  obtain ⟨u1, hu1, hres⟩ := mi_b hres
  refine call_I C0 (run_V C0 (rest := []) (kX8_isStep l dC dI q cI cJ cZ zn zm zj zf zr zw zs zfr zto zk zt za zb zq zl zv zo zu zov ztu zsh zle zmo zc zlo zhi  x1 u1 hu1 _) (cwV 1 hts gX8_over_X8_isStep rfl rfl rfl (by decide +kernel) ⟨by decide, by decide⟩) hP hD (ci := 8) (q0 := 0) rfl rfl rfl hl.1 rfl (Nat.le_of_ble_eq_true rfl) dX8_over_2) hD hS (fun H locs hP hD hS => ?_)
  refine lv_if_ne (tgt := 10) hx hb dX8_over_5 (by decide) (fun c_2 => ?_) (fun c_2 => ?_)
  · replace hres := mi_n c_2 hres
    refine lv_aload_n hx hb dX8_over_10 rfl (lv_at hl 0 rfl) ?_
    obtain ⟨u3, hu3, hres⟩ := mi_b hres
    refine call_V C0 (run_V C0 (rest := []) (kX8_all l dC dI q cI cJ cZ zn zm zj zf zr zw zs zfr zto zk zt za zb zq zl zv zo zu zov ztu zsh zle zmo zc zlo zhi   u3 hu3 _) (cwV 0 hts gX8_over_X8_all rfl rfl rfl (by decide +kernel) ⟨by decide, by decide⟩) hP hD (ci := 8) (q0 := 0) rfl rfl rfl hl.1 rfl (Nat.le_of_ble_eq_true rfl) dX8_over_11) hD hS (fun H locs hP hD hS => ?_)
    refine lv_aload_n hx hb dX8_over_14 rfl (lv_at hl 0 rfl) ?_
    refine va_get (D := (dC, dI)) (ci := 8) (v := .ref (q 14)) (C := RX8) (T := TX8) (N := 26) hx hb hts hwX8_over_RX8 hown hK hP 0 rfl rfl 17 (by decide) (hts _ mwX8_over_0) (fun _ h9 => h9) rfl dX8_over_15 ?_
    refine lv_iload_n hx hb dX8_over_18 rfl (lv_at hl 1 rfl) ?_
    obtain ⟨g_4, hres⟩ := mi_g hres
    refine va_iald (D := (dC, dI)) (cl := vwCl) hx hb hK hP 14 0 rfl rfl g_4 dX8_over_19 ?_
    obtain rfl := Option.some.inj hres
    exact ret_I (r := (u3.2.2.2.2.2.2.2.1 (Int32.toNatClampNeg x1))) C0 rfl hP hD hS dX8_over_20
  · replace hres := mi_p c_2 hres
    refine lv_iconst (v := (-1 : Int32)) hx hb dX8_over_8 (by decide) ?_
    obtain rfl := Option.some.inj hres
    exact ret_I (r := (-1 : Int32)) C0 rfl hP hD hS dX8_over_9
/-! ### SumsOverModel.shown(I)I -/
set_option maxRecDepth 20000 in
theorem hwX8_shown_RX8 : ∀ w ∈ u_ws RX8 TX8 26, w ∈ wsX8_shown := by decide +kernel
theorem mwX8_shown_0 : (.fieldLink RX8 57 "SumsOverModel" "shows" "[I" : Cond) ∈ wsX8_shown := by decide +kernel
def rmX8_shown : Room := { frames := 5, cells := 0, slots := 0, locals := 122 }
set_option maxHeartbeats 4000000 in
set_option maxRecDepth 100000 in
theorem kX8_shown (l : Launch) (dC : Nat → ClassId) (dI : Nat → Nat → Nat) (q : Nat → Nat) (cI cJ cZ : ClassId) (zn : Int32) (zm : Int32) (zj : Int32) (zf : Int32) (zr : Int32) (zw : Nat → Int32) (zs : Nat → Int32) (zfr : Nat → Int32) (zto : Nat → Int32) (zk : Nat → Int32) (zt : Nat → Int32) (za : Nat → Int32) (zb : Nat → Int32) (zq : Nat → Int32) (zl : Nat → Int32) (zv : Nat → Int64) (zo : Nat → Int32) (zu : Nat → Int32) (zov : Nat → Int32) (ztu : Nat → Int32) (zsh : Nat → Int32) (zle : Nat → Int64) (zmo : Nat → Int64) (zc : Nat → Int32) (zlo : Nat → Int64) (zhi : Nat → Int64) (x1 : Int32) (RES : Int32 × (Int32) × (Int32) × (Int32) × (Nat → Int32) × (Nat → Int64) × (Nat → Int32) × (Nat → Int32) × (Nat → Int32) × (Nat → Int32) × (Nat → Int32)) (hres : mX8_shown zn zm zj zf zr zw zs zfr zto zk zt za zb zl zv zo zu zov ztu zsh x1 = some RES) : CtI l yX8_shown wsX8_shown rmX8_shown (dC, dI) (ty3 cI cJ cZ) (wM q cI cJ cZ zn zm zj zf zr zw zs zfr zto zk zt za zb zq zl zv zo zu zov ztu zsh zle zmo zc zlo zhi) [.ref (q 0), .int x1] RES.1 (wM q cI cJ cZ zn zm RES.2.1 RES.2.2.1 RES.2.2.2.1 zw zs zfr zto zk zt za zb zq RES.2.2.2.2.1 RES.2.2.2.2.2.1 RES.2.2.2.2.2.2.1 RES.2.2.2.2.2.2.2.1 RES.2.2.2.2.2.2.2.2.1 RES.2.2.2.2.2.2.2.2.2.1 RES.2.2.2.2.2.2.2.2.2.2 zle zmo zc zlo zhi) := by
  intro sz
  refine ct_entry (cc := cX8_shown) (maxL := 2) (ret := some .int) (own := RX8) (by decide) rfl rfl (Nat.le_of_ble_eq_true rfl) (ll := [(0, .ref (q 0)), (1, .int x1)]) rfl ?_
  intro p e s m args below meth c hsz C0 _ hP hD ls hl
  have C1 := C0
  obtain ⟨hx, hb, hr, hml, hown, hts, hlocks, hN, hK, hA⟩ := C1
  have hS : va_S (va_A (wM q cI cJ cZ zn zm zj zf zr zw zs zfr zto zk zt za zb zq zl zv zo zu zov ztu zsh zle zmo zc zlo zhi) sz) s.heap s.heap [] := va_S.rf
  generalize va_A (wM q cI cJ cZ zn zm zj zf zr zw zs zfr zto zk zt za zb zq zl zv zo zu zov ztu zsh zle zmo zc zlo zhi) sz = A at C0 hD hA hS ⊢
  show W p l e rmX8_shown s m args below meth c s.heap [] 0 0 (QI below args s A (dC, dI) (ty3 cI cJ cZ) RES.1 (wM q cI cJ cZ zn zm RES.2.1 RES.2.2.1 RES.2.2.2.1 zw zs zfr zto zk zt za zb zq RES.2.2.2.2.1 RES.2.2.2.2.2.1 RES.2.2.2.2.2.2.1 RES.2.2.2.2.2.2.2.1 RES.2.2.2.2.2.2.2.2.1 RES.2.2.2.2.2.2.2.2.2.1 RES.2.2.2.2.2.2.2.2.2.2 zle zmo zc zlo zhi)) (F0 m 0 ls [])
  unfold mX8_shown at hres
  refine lv_aload_n hx hb dX8_shown_0 rfl (lv_at hl 0 rfl) ?_
  refine lv_iload_n hx hb dX8_shown_1 rfl (lv_at hl 1 rfl) ?_
  obtain ⟨u1, hu1, hres⟩ := mi_b hres
  refine call_I C0 (run_V C0 (rest := []) (kX8_isStep l dC dI q cI cJ cZ zn zm zj zf zr zw zs zfr zto zk zt za zb zq zl zv zo zu zov ztu zsh zle zmo zc zlo zhi  x1 u1 hu1 _) (cwV 1 hts gX8_shown_X8_isStep rfl rfl rfl (by decide +kernel) ⟨by decide, by decide⟩) hP hD (ci := 8) (q0 := 0) rfl rfl rfl hl.1 rfl (Nat.le_of_ble_eq_true rfl) dX8_shown_2) hD hS (fun H locs hP hD hS => ?_)
  refine lv_if_ne (tgt := 10) hx hb dX8_shown_5 (by decide) (fun c_2 => ?_) (fun c_2 => ?_)
  · replace hres := mi_n c_2 hres
    refine lv_aload_n hx hb dX8_shown_10 rfl (lv_at hl 0 rfl) ?_
    obtain ⟨u3, hu3, hres⟩ := mi_b hres
    refine call_V C0 (run_V C0 (rest := []) (kX8_all l dC dI q cI cJ cZ zn zm zj zf zr zw zs zfr zto zk zt za zb zq zl zv zo zu zov ztu zsh zle zmo zc zlo zhi   u3 hu3 _) (cwV 0 hts gX8_shown_X8_all rfl rfl rfl (by decide +kernel) ⟨by decide, by decide⟩) hP hD (ci := 8) (q0 := 0) rfl rfl rfl hl.1 rfl (Nat.le_of_ble_eq_true rfl) dX8_shown_11) hD hS (fun H locs hP hD hS => ?_)
    refine lv_aload_n hx hb dX8_shown_14 rfl (lv_at hl 0 rfl) ?_
    refine va_get (D := (dC, dI)) (ci := 8) (v := .ref (q 16)) (C := RX8) (T := TX8) (N := 26) hx hb hts hwX8_shown_RX8 hown hK hP 0 rfl rfl 19 (by decide) (hts _ mwX8_shown_0) (fun _ h9 => h9) rfl dX8_shown_15 ?_
    refine lv_iload_n hx hb dX8_shown_18 rfl (lv_at hl 1 rfl) ?_
    obtain ⟨g_4, hres⟩ := mi_g hres
    refine va_iald (D := (dC, dI)) (cl := vwCl) hx hb hK hP 16 0 rfl rfl g_4 dX8_shown_19 ?_
    obtain rfl := Option.some.inj hres
    exact ret_I (r := (u3.2.2.2.2.2.2.2.2.2 (Int32.toNatClampNeg x1))) C0 rfl hP hD hS dX8_shown_20
  · replace hres := mi_p c_2 hres
    refine lv_iconst (v := (-1 : Int32)) hx hb dX8_shown_8 (by decide) ?_
    obtain rfl := Option.some.inj hres
    exact ret_I (r := (-1 : Int32)) C0 rfl hP hD hS dX8_shown_9
/-! ### SumsOverModel.turned(I)I -/
set_option maxRecDepth 20000 in
theorem hwX8_turned_RX8 : ∀ w ∈ u_ws RX8 TX8 26, w ∈ wsX8_turned := by decide +kernel
theorem mwX8_turned_0 : (.fieldLink RX8 23 "SumsOverModel" "kind" "[I" : Cond) ∈ wsX8_turned := by decide +kernel
theorem mwX8_turned_1 : (.fieldLink RX8 54 "SumsOverModel" "turns" "[I" : Cond) ∈ wsX8_turned := by decide +kernel
def rmX8_turned : Room := { frames := 5, cells := 0, slots := 0, locals := 122 }
set_option maxHeartbeats 4000000 in
set_option maxRecDepth 100000 in
theorem kX8_turned (l : Launch) (dC : Nat → ClassId) (dI : Nat → Nat → Nat) (q : Nat → Nat) (cI cJ cZ : ClassId) (zn : Int32) (zm : Int32) (zj : Int32) (zf : Int32) (zr : Int32) (zw : Nat → Int32) (zs : Nat → Int32) (zfr : Nat → Int32) (zto : Nat → Int32) (zk : Nat → Int32) (zt : Nat → Int32) (za : Nat → Int32) (zb : Nat → Int32) (zq : Nat → Int32) (zl : Nat → Int32) (zv : Nat → Int64) (zo : Nat → Int32) (zu : Nat → Int32) (zov : Nat → Int32) (ztu : Nat → Int32) (zsh : Nat → Int32) (zle : Nat → Int64) (zmo : Nat → Int64) (zc : Nat → Int32) (zlo : Nat → Int64) (zhi : Nat → Int64) (x1 : Int32) (RES : Int32 × (Int32) × (Int32) × (Int32) × (Nat → Int32) × (Nat → Int64) × (Nat → Int32) × (Nat → Int32) × (Nat → Int32) × (Nat → Int32) × (Nat → Int32)) (hres : mX8_turned zn zm zj zf zr zw zs zfr zto zk zt za zb zl zv zo zu zov ztu zsh x1 = some RES) : CtI l yX8_turned wsX8_turned rmX8_turned (dC, dI) (ty3 cI cJ cZ) (wM q cI cJ cZ zn zm zj zf zr zw zs zfr zto zk zt za zb zq zl zv zo zu zov ztu zsh zle zmo zc zlo zhi) [.ref (q 0), .int x1] RES.1 (wM q cI cJ cZ zn zm RES.2.1 RES.2.2.1 RES.2.2.2.1 zw zs zfr zto zk zt za zb zq RES.2.2.2.2.1 RES.2.2.2.2.2.1 RES.2.2.2.2.2.2.1 RES.2.2.2.2.2.2.2.1 RES.2.2.2.2.2.2.2.2.1 RES.2.2.2.2.2.2.2.2.2.1 RES.2.2.2.2.2.2.2.2.2.2 zle zmo zc zlo zhi) := by
  intro sz
  refine ct_entry (cc := cX8_turned) (maxL := 2) (ret := some .int) (own := RX8) (by decide) rfl rfl (Nat.le_of_ble_eq_true rfl) (ll := [(0, .ref (q 0)), (1, .int x1)]) rfl ?_
  intro p e s m args below meth c hsz C0 _ hP hD ls hl
  have C1 := C0
  obtain ⟨hx, hb, hr, hml, hown, hts, hlocks, hN, hK, hA⟩ := C1
  have hS : va_S (va_A (wM q cI cJ cZ zn zm zj zf zr zw zs zfr zto zk zt za zb zq zl zv zo zu zov ztu zsh zle zmo zc zlo zhi) sz) s.heap s.heap [] := va_S.rf
  generalize va_A (wM q cI cJ cZ zn zm zj zf zr zw zs zfr zto zk zt za zb zq zl zv zo zu zov ztu zsh zle zmo zc zlo zhi) sz = A at C0 hD hA hS ⊢
  show W p l e rmX8_turned s m args below meth c s.heap [] 0 0 (QI below args s A (dC, dI) (ty3 cI cJ cZ) RES.1 (wM q cI cJ cZ zn zm RES.2.1 RES.2.2.1 RES.2.2.2.1 zw zs zfr zto zk zt za zb zq RES.2.2.2.2.1 RES.2.2.2.2.2.1 RES.2.2.2.2.2.2.1 RES.2.2.2.2.2.2.2.1 RES.2.2.2.2.2.2.2.2.1 RES.2.2.2.2.2.2.2.2.2.1 RES.2.2.2.2.2.2.2.2.2.2 zle zmo zc zlo zhi)) (F0 m 0 ls [])
  unfold mX8_turned at hres
  refine lv_aload_n hx hb dX8_turned_0 rfl (lv_at hl 0 rfl) ?_
  refine lv_iload_n hx hb dX8_turned_1 rfl (lv_at hl 1 rfl) ?_
  obtain ⟨u1, hu1, hres⟩ := mi_b hres
  refine call_I C0 (run_V C0 (rest := []) (kX8_isStep l dC dI q cI cJ cZ zn zm zj zf zr zw zs zfr zto zk zt za zb zq zl zv zo zu zov ztu zsh zle zmo zc zlo zhi  x1 u1 hu1 _) (cwV 1 hts gX8_turned_X8_isStep rfl rfl rfl (by decide +kernel) ⟨by decide, by decide⟩) hP hD (ci := 8) (q0 := 0) rfl rfl rfl hl.1 rfl (Nat.le_of_ble_eq_true rfl) dX8_turned_2) hD hS (fun H locs hP hD hS => ?_)
  refine lv_if_eq (tgt := 19) hx hb dX8_turned_5 (by decide) (fun c_2 => ?_) (fun c_2 => ?_)
  · replace hres := mi_p c_2 hres
    refine lv_iconst (v := (-1 : Int32)) hx hb dX8_turned_19 (by decide) ?_
    obtain rfl := Option.some.inj hres
    exact ret_I (r := (-1 : Int32)) C0 rfl hP hD hS dX8_turned_20
  · replace hres := mi_n c_2 hres
    refine lv_aload_n hx hb dX8_turned_8 rfl (lv_at hl 0 rfl) ?_
    refine va_get (D := (dC, dI)) (ci := 8) (v := .ref (q 5)) (C := RX8) (T := TX8) (N := 26) hx hb hts hwX8_turned_RX8 hown hK hP 0 rfl rfl 4 (by decide) (hts _ mwX8_turned_0) (fun _ h9 => h9) rfl dX8_turned_9 ?_
    refine lv_iload_n hx hb dX8_turned_12 rfl (lv_at hl 1 rfl) ?_
    obtain ⟨g_3, hres⟩ := mi_g hres
    refine va_iald (D := (dC, dI)) (cl := vwCl) hx hb hK hP 5 0 rfl rfl g_3 dX8_turned_13 ?_
    refine lv_bipush (v := (7 : Int32)) hx hb dX8_turned_14 (by decide) ?_
    refine lv_icmp_eq (tgt := 21) hx hb dX8_turned_16 (by decide) (fun c_4 => ?_) (fun c_4 => ?_)
    · replace hres := mi_p c_4 hres
      refine lv_aload_n hx hb dX8_turned_21 rfl (lv_at hl 0 rfl) ?_
      obtain ⟨u5, hu5, hres⟩ := mi_b hres
      refine call_V C0 (run_V C0 (rest := []) (kX8_all l dC dI q cI cJ cZ zn zm zj zf zr zw zs zfr zto zk zt za zb zq zl zv zo zu zov ztu zsh zle zmo zc zlo zhi   u5 hu5 _) (cwV 0 hts gX8_turned_X8_all rfl rfl rfl (by decide +kernel) ⟨by decide, by decide⟩) hP hD (ci := 8) (q0 := 0) rfl rfl rfl hl.1 rfl (Nat.le_of_ble_eq_true rfl) dX8_turned_22) hD hS (fun H locs hP hD hS => ?_)
      refine lv_aload_n hx hb dX8_turned_25 rfl (lv_at hl 0 rfl) ?_
      refine va_get (D := (dC, dI)) (ci := 8) (v := .ref (q 15)) (C := RX8) (T := TX8) (N := 26) hx hb hts hwX8_turned_RX8 hown hK hP 0 rfl rfl 18 (by decide) (hts _ mwX8_turned_1) (fun _ h9 => h9) rfl dX8_turned_26 ?_
      refine lv_iload_n hx hb dX8_turned_29 rfl (lv_at hl 1 rfl) ?_
      refine va_iald (D := (dC, dI)) (cl := vwCl) hx hb hK hP 15 0 rfl rfl g_3 dX8_turned_30 ?_
      obtain rfl := Option.some.inj hres
      exact ret_I (r := (u5.2.2.2.2.2.2.2.2.1 (Int32.toNatClampNeg x1))) C0 rfl hP hD hS dX8_turned_31
    · replace hres := mi_n c_4 hres
      refine lv_iconst (v := (-1 : Int32)) hx hb dX8_turned_19 (by decide) ?_
      obtain rfl := Option.some.inj hres
      exact ret_I (r := (-1 : Int32)) C0 rfl hP hD hS dX8_turned_20
/-! ### SumsOverModel.given(IJ)Z -/
set_option maxRecDepth 20000 in
theorem hwX8_given_RX8 : ∀ w ∈ u_ws RX8 TX8 26, w ∈ wsX8_given := by decide +kernel
theorem mwX8_given_0 : (.fieldLink RX8 41 "SumsOverModel" "values" "[J" : Cond) ∈ wsX8_given := by decide +kernel
theorem mwX8_given_1 : (.fieldLink RX8 69 "SumsOverModel" "lowest" "[J" : Cond) ∈ wsX8_given := by decide +kernel
theorem mwX8_given_2 : (.methodLink RX8 130 Lib.MathLoose.min_long.x : Cond) ∈ wsX8_given := by decide +kernel
theorem mwX8_given_3 : (.static Lib.MathLoose.min_long.x : Cond) ∈ wsX8_given := by decide +kernel
theorem mwX8_given_4 : (.initialized "java/lang/Math" : Cond) ∈ wsX8_given := by decide +kernel
theorem mwX8_given_5 : (.code Lib.MathLoose.min_long.x Lib.MathLoose.min_long.code 4 (some .long) : Cond) ∈ wsX8_given := by decide +kernel
theorem mwX8_given_6 : (.fieldLink RX8 72 "SumsOverModel" "highest" "[J" : Cond) ∈ wsX8_given := by decide +kernel
theorem mwX8_given_7 : (.methodLink RX8 165 Lib.MathLoose.max_long.x : Cond) ∈ wsX8_given := by decide +kernel
theorem mwX8_given_8 : (.static Lib.MathLoose.max_long.x : Cond) ∈ wsX8_given := by decide +kernel
theorem mwX8_given_9 : (.code Lib.MathLoose.max_long.x Lib.MathLoose.max_long.code 4 (some .long) : Cond) ∈ wsX8_given := by decide +kernel
def rmX8_given : Room := { frames := 2, cells := 0, slots := 0, locals := 46 }
set_option maxHeartbeats 4000000 in
set_option maxRecDepth 100000 in
theorem kX8_given (l : Launch) (dC : Nat → ClassId) (dI : Nat → Nat → Nat) (q : Nat → Nat) (cI cJ cZ : ClassId) (zn : Int32) (zm : Int32) (zj : Int32) (zf : Int32) (zr : Int32) (zw : Nat → Int32) (zs : Nat → Int32) (zfr : Nat → Int32) (zto : Nat → Int32) (zk : Nat → Int32) (zt : Nat → Int32) (za : Nat → Int32) (zb : Nat → Int32) (zq : Nat → Int32) (zl : Nat → Int32) (zv : Nat → Int64) (zo : Nat → Int32) (zu : Nat → Int32) (zov : Nat → Int32) (ztu : Nat → Int32) (zsh : Nat → Int32) (zle : Nat → Int64) (zmo : Nat → Int64) (zc : Nat → Int32) (zlo : Nat → Int64) (zhi : Nat → Int64) (x1 : Int32) (x2 : Int64) (RES : Int32 × (Nat → Int64) × (Nat → Int64) × (Nat → Int64)) (hres : mX8_given zv zlo zhi x1 x2 = some RES) : CtI l yX8_given wsX8_given rmX8_given (dC, dI) (ty3 cI cJ cZ) (wM q cI cJ cZ zn zm zj zf zr zw zs zfr zto zk zt za zb zq zl zv zo zu zov ztu zsh zle zmo zc zlo zhi) [.ref (q 0), .int x1, .long x2] RES.1 (wM q cI cJ cZ zn zm zj zf zr zw zs zfr zto zk zt za zb zq zl RES.2.1 zo zu zov ztu zsh zle zmo zc RES.2.2.1 RES.2.2.2) := by
  intro sz
  refine ct_entry (cc := cX8_given) (maxL := 4) (ret := some .boolean) (own := RX8) (by decide) rfl rfl (Nat.le_of_ble_eq_true rfl) (ll := [(0, .ref (q 0)), (1, .int x1), (2, .long x2)]) rfl ?_
  intro p e s m args below meth c hsz C0 _ hP hD ls hl
  have C1 := C0
  obtain ⟨hx, hb, hr, hml, hown, hts, hlocks, hN, hK, hA⟩ := C1
  have hS : va_S (va_A (wM q cI cJ cZ zn zm zj zf zr zw zs zfr zto zk zt za zb zq zl zv zo zu zov ztu zsh zle zmo zc zlo zhi) sz) s.heap s.heap [] := va_S.rf
  generalize va_A (wM q cI cJ cZ zn zm zj zf zr zw zs zfr zto zk zt za zb zq zl zv zo zu zov ztu zsh zle zmo zc zlo zhi) sz = A at C0 hD hA hS ⊢
  show W p l e rmX8_given s m args below meth c s.heap [] 0 0 (QI below args s A (dC, dI) (ty3 cI cJ cZ) RES.1 (wM q cI cJ cZ zn zm zj zf zr zw zs zfr zto zk zt za zb zq zl RES.2.1 zo zu zov ztu zsh zle zmo zc RES.2.2.1 RES.2.2.2)) (F0 m 0 ls [])
  unfold mX8_given at hres
  refine lv_aload_n hx hb dX8_given_0 rfl (lv_at hl 0 rfl) ?_
  refine va_get (D := (dC, dI)) (ci := 8) (v := .ref (q 11)) (C := RX8) (T := TX8) (N := 26) hx hb hts hwX8_given_RX8 hown hK hP 0 rfl rfl 13 (by decide) (hts _ mwX8_given_0) (fun _ h9 => h9) rfl dX8_given_1 ?_
  refine lv_iload_n hx hb dX8_given_4 rfl (lv_at hl 1 rfl) ?_
  refine lv_lload_n hx hb dX8_given_5 rfl (lv_at hl 2 rfl) ?_
  obtain ⟨g_1, hres⟩ := mi_g hres
  refine va_last (D := (dC, dI)) (cl := vwCl) hx hb hK hP hD hS 11 1 rfl rfl g_1 dX8_given_6 (fun H locs hP hD hS => ?_)
  have hP : va_P (dC, dI) vwCl (wM q cI cJ cZ zn zm zj zf zr zw zs zfr zto zk zt za zb zq zl (vp_updL zv (Int32.toNatClampNeg x1) x2) zo zu zov ztu zsh zle zmo zc zlo zhi) H := hP
  have hD : va_D A (wM q cI cJ cZ zn zm zj zf zr zw zs zfr zto zk zt za zb zq zl (vp_updL zv (Int32.toNatClampNeg x1) x2) zo zu zov ztu zsh zle zmo zc zlo zhi) := hD
  refine lv_aload_n hx hb dX8_given_7 rfl (lv_at hl 0 rfl) ?_
  refine va_get (D := (dC, dI)) (ci := 8) (v := .ref (q 20)) (C := RX8) (T := TX8) (N := 26) hx hb hts hwX8_given_RX8 hown hK hP 0 rfl rfl 24 (by decide) (hts _ mwX8_given_1) (fun _ h9 => h9) rfl dX8_given_8 ?_
  refine lv_iload_n hx hb dX8_given_11 rfl (lv_at hl 1 rfl) ?_
  refine lv_aload_n hx hb dX8_given_12 rfl (lv_at hl 0 rfl) ?_
  refine va_get (D := (dC, dI)) (ci := 8) (v := .ref (q 20)) (C := RX8) (T := TX8) (N := 26) hx hb hts hwX8_given_RX8 hown hK hP 0 rfl rfl 24 (by decide) (hts _ mwX8_given_1) (fun _ h9 => h9) rfl dX8_given_13 ?_
  refine lv_iload_n hx hb dX8_given_16 rfl (lv_at hl 1 rfl) ?_
  refine va_lald (D := (dC, dI)) (cl := vwCl) hx hb hK hP 20 1 rfl rfl g_1 dX8_given_17 ?_
  refine lv_lload_n hx hb dX8_given_18 rfl (lv_at hl 2 rfl) ?_
  refine va_mmin_long hx hb (hml.trans hl.1.symm) hown (hts _ mwX8_given_2) (hts _ mwX8_given_3) (hts _ mwX8_given_4) (hts _ mwX8_given_5) (Nat.le_of_ble_eq_true rfl) (Nat.le_of_ble_eq_true rfl) (Nat.zero_le _) (Nat.zero_le _) dX8_given_19 ?_
  refine va_last (D := (dC, dI)) (cl := vwCl) hx hb hK hP hD hS 20 1 rfl rfl g_1 dX8_given_22 (fun H locs hP hD hS => ?_)
  have hP : va_P (dC, dI) vwCl (wM q cI cJ cZ zn zm zj zf zr zw zs zfr zto zk zt za zb zq zl (vp_updL zv (Int32.toNatClampNeg x1) x2) zo zu zov ztu zsh zle zmo zc (vp_updL zlo (Int32.toNatClampNeg x1) (if x2 < (zlo (Int32.toNatClampNeg x1)) then x2 else (zlo (Int32.toNatClampNeg x1)))) zhi) H := hP
  have hD : va_D A (wM q cI cJ cZ zn zm zj zf zr zw zs zfr zto zk zt za zb zq zl (vp_updL zv (Int32.toNatClampNeg x1) x2) zo zu zov ztu zsh zle zmo zc (vp_updL zlo (Int32.toNatClampNeg x1) (if x2 < (zlo (Int32.toNatClampNeg x1)) then x2 else (zlo (Int32.toNatClampNeg x1)))) zhi) := hD
  refine lv_aload_n hx hb dX8_given_23 rfl (lv_at hl 0 rfl) ?_
  refine va_get (D := (dC, dI)) (ci := 8) (v := .ref (q 21)) (C := RX8) (T := TX8) (N := 26) hx hb hts hwX8_given_RX8 hown hK hP 0 rfl rfl 25 (by decide) (hts _ mwX8_given_6) (fun _ h9 => h9) rfl dX8_given_24 ?_
  refine lv_iload_n hx hb dX8_given_27 rfl (lv_at hl 1 rfl) ?_
  refine lv_aload_n hx hb dX8_given_28 rfl (lv_at hl 0 rfl) ?_
  refine va_get (D := (dC, dI)) (ci := 8) (v := .ref (q 21)) (C := RX8) (T := TX8) (N := 26) hx hb hts hwX8_given_RX8 hown hK hP 0 rfl rfl 25 (by decide) (hts _ mwX8_given_6) (fun _ h9 => h9) rfl dX8_given_29 ?_
  refine lv_iload_n hx hb dX8_given_32 rfl (lv_at hl 1 rfl) ?_
  refine va_lald (D := (dC, dI)) (cl := vwCl) hx hb hK hP 21 1 rfl rfl g_1 dX8_given_33 ?_
  refine lv_lload_n hx hb dX8_given_34 rfl (lv_at hl 2 rfl) ?_
  refine va_mmax_long hx hb (hml.trans hl.1.symm) hown (hts _ mwX8_given_7) (hts _ mwX8_given_8) (hts _ mwX8_given_4) (hts _ mwX8_given_9) (Nat.le_of_ble_eq_true rfl) (Nat.le_of_ble_eq_true rfl) (Nat.zero_le _) (Nat.zero_le _) dX8_given_35 ?_
  refine va_last (D := (dC, dI)) (cl := vwCl) hx hb hK hP hD hS 21 1 rfl rfl g_1 dX8_given_38 (fun H locs hP hD hS => ?_)
  have hP : va_P (dC, dI) vwCl (wM q cI cJ cZ zn zm zj zf zr zw zs zfr zto zk zt za zb zq zl (vp_updL zv (Int32.toNatClampNeg x1) x2) zo zu zov ztu zsh zle zmo zc (vp_updL zlo (Int32.toNatClampNeg x1) (if x2 < (zlo (Int32.toNatClampNeg x1)) then x2 else (zlo (Int32.toNatClampNeg x1)))) (vp_updL zhi (Int32.toNatClampNeg x1) (if x2 < (zhi (Int32.toNatClampNeg x1)) then (zhi (Int32.toNatClampNeg x1)) else x2))) H := hP
  have hD : va_D A (wM q cI cJ cZ zn zm zj zf zr zw zs zfr zto zk zt za zb zq zl (vp_updL zv (Int32.toNatClampNeg x1) x2) zo zu zov ztu zsh zle zmo zc (vp_updL zlo (Int32.toNatClampNeg x1) (if x2 < (zlo (Int32.toNatClampNeg x1)) then x2 else (zlo (Int32.toNatClampNeg x1)))) (vp_updL zhi (Int32.toNatClampNeg x1) (if x2 < (zhi (Int32.toNatClampNeg x1)) then (zhi (Int32.toNatClampNeg x1)) else x2))) := hD
  refine lv_lload_n hx hb dX8_given_39 rfl (lv_at hl 2 rfl) ?_
  obtain ⟨u2, hu2, hres⟩ := mi_b hres
  refine call_I C0 (run_S C0 (rest := []) (kX8_isFar l (dC, dI) (ty3 cI cJ cZ) (wM q cI cJ cZ zn zm zj zf zr zw zs zfr zto zk zt za zb zq zl (vp_updL zv (Int32.toNatClampNeg x1) x2) zo zu zov ztu zsh zle zmo zc (vp_updL zlo (Int32.toNatClampNeg x1) (if x2 < (zlo (Int32.toNatClampNeg x1)) then x2 else (zlo (Int32.toNatClampNeg x1)))) (vp_updL zhi (Int32.toNatClampNeg x1) (if x2 < (zhi (Int32.toNatClampNeg x1)) then (zhi (Int32.toNatClampNeg x1)) else x2))) x2 u2 hu2 _) (va_cwS 1 hts gX8_given_X8_isFar rfl rfl rfl (by decide +kernel) ⟨by decide, by decide⟩) hP hD rfl hl.1 rfl (Nat.le_of_ble_eq_true rfl) dX8_given_40) hD hS (fun H locs hP hD hS => ?_)
  refine lv_if_ne (tgt := 50) hx hb dX8_given_43 (by decide) (fun c_3 => ?_) (fun c_3 => ?_)
  · replace hres := mi_n c_3 hres
    refine lv_iconst (v := (0 : Int32)) hx hb dX8_given_50 (by decide) ?_
    obtain rfl := Option.some.inj hres
    exact ret_I (r := (0 : Int32)) C0 rfl hP hD hS dX8_given_51
  · replace hres := mi_p c_3 hres
    refine lv_iconst (v := (1 : Int32)) hx hb dX8_given_46 (by decide) ?_
    refine lv_goto (tgt := 51) hx hb dX8_given_47 (by decide) ?_
    obtain rfl := Option.some.inj hres
    exact ret_I (r := (1 : Int32)) C0 rfl hP hD hS dX8_given_51
/-! ### SumsOverModel.isNear(II)Z -/
set_option maxRecDepth 20000 in
theorem hwX8_isNear_RX8 : ∀ w ∈ u_ws RX8 TX8 26, w ∈ wsX8_isNear := by decide +kernel
theorem mwX8_isNear_0 : (.fieldLink RX8 41 "SumsOverModel" "values" "[J" : Cond) ∈ wsX8_isNear := by decide +kernel
theorem mwX8_isNear_1 : (.fieldLink RX8 110 "SumsOverModel" "lineMany" "I" : Cond) ∈ wsX8_isNear := by decide +kernel
theorem mwX8_isNear_2 : (.fieldLink RX8 38 "SumsOverModel" "line" "[I" : Cond) ∈ wsX8_isNear := by decide +kernel
theorem mwX8_isNear_3 : (.fieldLink RX8 23 "SumsOverModel" "kind" "[I" : Cond) ∈ wsX8_isNear := by decide +kernel
theorem mwX8_isNear_4 : (.fieldLink RX8 29 "SumsOverModel" "a" "[I" : Cond) ∈ wsX8_isNear := by decide +kernel
theorem mwX8_isNear_5 : (.fieldLink RX8 32 "SumsOverModel" "b" "[I" : Cond) ∈ wsX8_isNear := by decide +kernel
theorem mwX8_isNear_6 : (.fieldLink RX8 26 "SumsOverModel" "target" "[I" : Cond) ∈ wsX8_isNear := by decide +kernel
def rmX8_isNear : Room := { frames := 3, cells := 0, slots := 0, locals := 73 }
def iX8_isNear_L104 (p : Program) (l : Launch) (e : Env) (s : State) (m : MethodId) (args : Array Value) (below : List Frame) (meth : Method) (c : Code) (A : Nat → Prop) (dC : Nat → ClassId) (dI : Nat → Nat → Nat) (q : Nat → Nat) (cI cJ cZ : ClassId) (zn : Int32) (zm : Int32) (zj : Int32) (zf : Int32) (zr : Int32) (zw : Nat → Int32) (zs : Nat → Int32) (zfr : Nat → Int32) (zto : Nat → Int32) (zk : Nat → Int32) (zt : Nat → Int32) (za : Nat → Int32) (zb : Nat → Int32) (zq : Nat → Int32) (zl : Nat → Int32) (zo : Nat → Int32) (zu : Nat → Int32) (zov : Nat → Int32) (ztu : Nat → Int32) (zsh : Nat → Int32) (zle : Nat → Int64) (zmo : Nat → Int64) (zc : Nat → Int32)  (RES : Int32 × (Nat → Int64) × (Nat → Int64) × (Nat → Int64)) (k : (Nat → Int64) → (Nat → Int64) → (Nat → Int64) → (Int32) → (Int32) → Option (Int32 × (Nat → Int64) × (Nat → Int64) × (Nat → Int64))) : Prop := ∀ (zv : Nat → Int64) (zlo : Nat → Int64) (zhi : Nat → Int64) (x3 : Int32) (x4 : Int32) (H : Heap) (locs : List Loc) (ls : Array Slot), va_P (dC, dI) vwCl (wM q cI cJ cZ zn zm zj zf zr zw zs zfr zto zk zt za zb zq zl zv zo zu zov ztu zsh zle zmo zc zlo zhi) H → va_D A (wM q cI cJ cZ zn zm zj zf zr zw zs zfr zto zk zt za zb zq zl zv zo zu zov ztu zsh zle zmo zc zlo zhi) → va_S A s.heap H locs → lv_has ls 7 [(0, .ref (q 0)), (3, .int x3), (4, .int x4)] → k zv zlo zhi x3 x4 = some RES → W p l e rmX8_isNear s m args below meth c H locs 0 0 (QI below args s A (dC, dI) (ty3 cI cJ cZ) RES.1 (wM q cI cJ cZ zn zm zj zf zr zw zs zfr zto zk zt za zb zq zl RES.2.1 zo zu zov ztu zsh zle zmo zc RES.2.2.1 RES.2.2.2)) (F0 m 104 ls [])
def iX8_isNear_L45 (p : Program) (l : Launch) (e : Env) (s : State) (m : MethodId) (args : Array Value) (below : List Frame) (meth : Method) (c : Code) (A : Nat → Prop) (dC : Nat → ClassId) (dI : Nat → Nat → Nat) (q : Nat → Nat) (cI cJ cZ : ClassId) (zn : Int32) (zm : Int32) (zj : Int32) (zf : Int32) (zr : Int32) (zw : Nat → Int32) (zs : Nat → Int32) (zfr : Nat → Int32) (zto : Nat → Int32) (zk : Nat → Int32) (zt : Nat → Int32) (za : Nat → Int32) (zb : Nat → Int32) (zq : Nat → Int32) (zl : Nat → Int32) (zo : Nat → Int32) (zu : Nat → Int32) (zov : Nat → Int32) (ztu : Nat → Int32) (zsh : Nat → Int32) (zle : Nat → Int64) (zmo : Nat → Int64) (zc : Nat → Int32)  (RES : Int32 × (Nat → Int64) × (Nat → Int64) × (Nat → Int64)) (k : (Nat → Int64) → (Nat → Int64) → (Nat → Int64) → (Int32) → Option (Int32 × (Nat → Int64) × (Nat → Int64) × (Nat → Int64))) : Prop := ∀ (zv : Nat → Int64) (zlo : Nat → Int64) (zhi : Nat → Int64) (x3 : Int32) (H : Heap) (locs : List Loc) (ls : Array Slot), va_P (dC, dI) vwCl (wM q cI cJ cZ zn zm zj zf zr zw zs zfr zto zk zt za zb zq zl zv zo zu zov ztu zsh zle zmo zc zlo zhi) H → va_D A (wM q cI cJ cZ zn zm zj zf zr zw zs zfr zto zk zt za zb zq zl zv zo zu zov ztu zsh zle zmo zc zlo zhi) → va_S A s.heap H locs → lv_has ls 7 [(0, .ref (q 0)), (3, .int x3)] → k zv zlo zhi x3 = some RES → W p l e rmX8_isNear s m args below meth c H locs 0 0 (QI below args s A (dC, dI) (ty3 cI cJ cZ) RES.1 (wM q cI cJ cZ zn zm zj zf zr zw zs zfr zto zk zt za zb zq zl RES.2.1 zo zu zov ztu zsh zle zmo zc RES.2.2.1 RES.2.2.2)) (F0 m 45 ls [])
def iX8_isNear_L2 (p : Program) (l : Launch) (e : Env) (s : State) (m : MethodId) (args : Array Value) (below : List Frame) (meth : Method) (c : Code) (A : Nat → Prop) (dC : Nat → ClassId) (dI : Nat → Nat → Nat) (q : Nat → Nat) (cI cJ cZ : ClassId) (zn : Int32) (zm : Int32) (zj : Int32) (zf : Int32) (zr : Int32) (zw : Nat → Int32) (zs : Nat → Int32) (zfr : Nat → Int32) (zto : Nat → Int32) (zk : Nat → Int32) (zt : Nat → Int32) (za : Nat → Int32) (zb : Nat → Int32) (zq : Nat → Int32) (zl : Nat → Int32) (zo : Nat → Int32) (zu : Nat → Int32) (zov : Nat → Int32) (ztu : Nat → Int32) (zsh : Nat → Int32) (zle : Nat → Int64) (zmo : Nat → Int64) (zc : Nat → Int32)  (RES : Int32 × (Nat → Int64) × (Nat → Int64) × (Nat → Int64)) (k : (Nat → Int64) → (Nat → Int64) → (Nat → Int64) → (Int32) → (Int32) → (Int32) → Option (Int32 × (Nat → Int64) × (Nat → Int64) × (Nat → Int64))) : Prop := ∀ (zv : Nat → Int64) (zlo : Nat → Int64) (zhi : Nat → Int64) (x1 : Int32) (x2 : Int32) (x3 : Int32) (H : Heap) (locs : List Loc) (ls : Array Slot), va_P (dC, dI) vwCl (wM q cI cJ cZ zn zm zj zf zr zw zs zfr zto zk zt za zb zq zl zv zo zu zov ztu zsh zle zmo zc zlo zhi) H → va_D A (wM q cI cJ cZ zn zm zj zf zr zw zs zfr zto zk zt za zb zq zl zv zo zu zov ztu zsh zle zmo zc zlo zhi) → va_S A s.heap H locs → lv_has ls 7 [(0, .ref (q 0)), (1, .int x1), (2, .int x2), (3, .int x3)] → k zv zlo zhi x1 x2 x3 = some RES → W p l e rmX8_isNear s m args below meth c H locs 0 0 (QI below args s A (dC, dI) (ty3 cI cJ cZ) RES.1 (wM q cI cJ cZ zn zm zj zf zr zw zs zfr zto zk zt za zb zq zl RES.2.1 zo zu zov ztu zsh zle zmo zc RES.2.2.1 RES.2.2.2)) (F0 m 2 ls [])
set_option maxHeartbeats 4000000 in
set_option maxRecDepth 100000 in
theorem zX8_isNear_L104 {p : Program} {l : Launch} {e : Env} {s : State} {m : MethodId} {args : Array Value} {below : List Frame} {meth : Method} {c : Code} {A : Nat → Prop} {dC : Nat → ClassId} {dI : Nat → Nat → Nat} {q : Nat → Nat} {cI cJ cZ : ClassId} {zn : Int32} {zm : Int32} {zj : Int32} {zf : Int32} {zr : Int32} {zw : Nat → Int32} {zs : Nat → Int32} {zfr : Nat → Int32} {zto : Nat → Int32} {zk : Nat → Int32} {zt : Nat → Int32} {za : Nat → Int32} {zb : Nat → Int32} {zq : Nat → Int32} {zl : Nat → Int32} {zo : Nat → Int32} {zu : Nat → Int32} {zov : Nat → Int32} {ztu : Nat → Int32} {zsh : Nat → Int32} {zle : Nat → Int64} {zmo : Nat → Int64} {zc : Nat → Int32}  (C0 : Cx p s m args meth c cX8_isNear 7 (some .boolean) RX8 wsX8_isNear A (dC, dI) (ty3 cI cJ cZ)) {RES : Int32 × (Nat → Int64) × (Nat → Int64) × (Nat → Int64)} {k45 : (Nat → Int64) → (Nat → Int64) → (Nat → Int64) → (Int32) → Option (Int32 × (Nat → Int64) × (Nat → Int64) × (Nat → Int64))} (hk45 : iX8_isNear_L45 p l e s m args below meth c A dC dI q cI cJ cZ zn zm zj zf zr zw zs zfr zto zk zt za zb zq zl zo zu zov ztu zsh zle zmo zc RES k45) : iX8_isNear_L104 p l e s m args below meth c A dC dI q cI cJ cZ zn zm zj zf zr zw zs zfr zto zk zt za zb zq zl zo zu zov ztu zsh zle zmo zc RES (mX8_isNear_L104 zj zw zs zk zt za zb zl k45) := by
  have C1 := C0
  obtain ⟨hx, hb, hr, hml, hown, hts, hlocks, hN, hK, hA⟩ := C1
  intro zv zlo zhi x3 x4 H locs ls hP hD hS hl hres
  unfold mX8_isNear_L104 at hres
  refine lv_aload_n hx hb dX8_isNear_104 rfl (lv_at hl 0 rfl) ?_
  refine va_get (D := (dC, dI)) (ci := 8) (v := .ref (q 5)) (C := RX8) (T := TX8) (N := 26) hx hb hts hwX8_isNear_RX8 hown hK hP 0 rfl rfl 4 (by decide) (hts _ mwX8_isNear_3) (fun _ h9 => h9) rfl dX8_isNear_105 ?_
  refine lv_iload hx hb dX8_isNear_108 (lv_at hl 2 rfl) ?_
  obtain ⟨g_15, hres⟩ := mi_g hres
  refine va_iald (D := (dC, dI)) (cl := vwCl) hx hb hK hP 5 0 rfl rfl g_15 dX8_isNear_110 ?_
  refine lv_bipush (v := (7 : Int32)) hx hb dX8_isNear_111 (by decide) ?_
  refine lv_icmp_ne (tgt := 154) hx hb dX8_isNear_113 (by decide) (fun c_16 => ?_) (fun c_16 => ?_)
  · replace hres := mi_n c_16 hres
    refine lv_aload_n hx hb dX8_isNear_154 rfl (lv_at hl 0 rfl) ?_
    refine lv_iload hx hb dX8_isNear_155 (lv_at hl 2 rfl) ?_
    obtain ⟨u17, hu17, hres⟩ := mi_b hres
    refine call_L C0 (run_V C0 (rest := []) (kX8_valueOf l dC dI q cI cJ cZ zn zm zj zf zr zw zs zfr zto zk zt za zb zq zl zv zo zu zov ztu zsh zle zmo zc zlo zhi  x4 u17 hu17 _) (cwV 1 hts gX8_isNear_X8_valueOf rfl rfl rfl (by decide +kernel) ⟨by decide, by decide⟩) hP hD (ci := 8) (q0 := 0) rfl rfl rfl hl.1 rfl (Nat.le_of_ble_eq_true rfl) dX8_isNear_157) hD hS (fun H locs hP hD hS => ?_)
    refine lv_lstore (lv' := [(5, .long u17), (0, .ref (q 0)), (3, .int x3), (4, .int x4)]) hx hb dX8_isNear_160 hl (by decide) rfl (fun ls hl => ?_)
    refine lv_aload_n hx hb dX8_isNear_162 rfl (lv_at hl 1 rfl) ?_
    refine lv_aload_n hx hb dX8_isNear_163 rfl (lv_at hl 1 rfl) ?_
    refine va_get (D := (dC, dI)) (ci := 8) (v := .ref (q 6)) (C := RX8) (T := TX8) (N := 26) hx hb hts hwX8_isNear_RX8 hown hK hP 0 rfl rfl 5 (by decide) (hts _ mwX8_isNear_6) (fun _ h9 => h9) rfl dX8_isNear_164 ?_
    refine lv_iload hx hb dX8_isNear_167 (lv_at hl 3 rfl) ?_
    refine va_iald (D := (dC, dI)) (cl := vwCl) hx hb hK hP 6 0 rfl rfl g_15 dX8_isNear_169 ?_
    refine lv_lload hx hb dX8_isNear_170 (lv_at hl 0 rfl) ?_
    obtain ⟨u18, hu18, hres⟩ := mi_b hres
    refine call_I C0 (run_V C0 (rest := []) (kX8_given l dC dI q cI cJ cZ zn zm zj zf zr zw zs zfr zto zk zt za zb zq zl zv zo zu zov ztu zsh zle zmo zc zlo zhi  (zt (Int32.toNatClampNeg x4)) u17 u18 hu18 _) (cwV 2 hts gX8_isNear_X8_given rfl rfl rfl (by decide +kernel) ⟨by decide, by decide⟩) hP hD (ci := 8) (q0 := 0) rfl rfl rfl hl.1 rfl (Nat.le_of_ble_eq_true rfl) dX8_isNear_172) hD hS (fun H locs hP hD hS => ?_)
    refine lv_if_ne (tgt := 180) hx hb dX8_isNear_175 (by decide) (fun c_19 => ?_) (fun c_19 => ?_)
    · replace hres := mi_n c_19 hres
      refine lv_iinc (v := x3 + (1 : Int32)) (lv' := [(3, .int (x3 + (1 : Int32))), (5, .long u17), (0, .ref (q 0)), (4, .int x4)]) hx hb dX8_isNear_180 hl (k := 2) rfl rfl (by decide) rfl (fun ls hl => ?_)
      refine lv_goto (tgt := 45) hx hb dX8_isNear_183 (by decide) ?_
      exact hk45 u18.2.1 u18.2.2.1 u18.2.2.2 (x3 + (1 : Int32)) _ _ ls hP hD hS (lv_sub hl [2, 0] rfl) hres
    · replace hres := mi_p c_19 hres
      refine lv_iconst (v := (0 : Int32)) hx hb dX8_isNear_178 (by decide) ?_
      obtain rfl := Option.some.inj hres
      exact ret_I (r := (0 : Int32)) C0 rfl hP hD hS dX8_isNear_179
  · replace hres := mi_p c_16 hres
    refine lv_aload_n hx hb dX8_isNear_116 rfl (lv_at hl 0 rfl) ?_
    refine va_get (D := (dC, dI)) (ci := 8) (v := .ref (q 11)) (C := RX8) (T := TX8) (N := 26) hx hb hts hwX8_isNear_RX8 hown hK hP 0 rfl rfl 13 (by decide) (hts _ mwX8_isNear_0) (fun _ h9 => h9) rfl dX8_isNear_117 ?_
    refine lv_aload_n hx hb dX8_isNear_120 rfl (lv_at hl 0 rfl) ?_
    refine va_get (D := (dC, dI)) (ci := 8) (v := .ref (q 7)) (C := RX8) (T := TX8) (N := 26) hx hb hts hwX8_isNear_RX8 hown hK hP 0 rfl rfl 6 (by decide) (hts _ mwX8_isNear_4) (fun _ h9 => h9) rfl dX8_isNear_121 ?_
    refine lv_iload hx hb dX8_isNear_124 (lv_at hl 2 rfl) ?_
    refine va_iald (D := (dC, dI)) (cl := vwCl) hx hb hK hP 7 0 rfl rfl g_15 dX8_isNear_126 ?_
    obtain ⟨g_20, hres⟩ := mi_g hres
    refine va_lald (D := (dC, dI)) (cl := vwCl) hx hb hK hP 11 1 rfl rfl g_20 dX8_isNear_127 ?_
    refine lv_aload_n hx hb dX8_isNear_128 rfl (lv_at hl 0 rfl) ?_
    refine va_get (D := (dC, dI)) (ci := 8) (v := .ref (q 11)) (C := RX8) (T := TX8) (N := 26) hx hb hts hwX8_isNear_RX8 hown hK hP 0 rfl rfl 13 (by decide) (hts _ mwX8_isNear_0) (fun _ h9 => h9) rfl dX8_isNear_129 ?_
    refine lv_aload_n hx hb dX8_isNear_132 rfl (lv_at hl 0 rfl) ?_
    refine va_get (D := (dC, dI)) (ci := 8) (v := .ref (q 8)) (C := RX8) (T := TX8) (N := 26) hx hb hts hwX8_isNear_RX8 hown hK hP 0 rfl rfl 7 (by decide) (hts _ mwX8_isNear_5) (fun _ h9 => h9) rfl dX8_isNear_133 ?_
    refine lv_iload hx hb dX8_isNear_136 (lv_at hl 2 rfl) ?_
    refine va_iald (D := (dC, dI)) (cl := vwCl) hx hb hK hP 8 0 rfl rfl g_15 dX8_isNear_138 ?_
    obtain ⟨g_21, hres⟩ := mi_g hres
    refine va_lald (D := (dC, dI)) (cl := vwCl) hx hb hK hP 11 1 rfl rfl g_21 dX8_isNear_139 ?_
    refine W.lcmp hx hb dX8_isNear_140 ?_
    refine lv_if_ge (tgt := 148) hx hb dX8_isNear_141 (by decide) (fun c_22 => ?_) (fun c_22 => ?_)
    · rw [lg_cmp_ge] at c_22
      replace hres := mi_p c_22 hres
      refine lv_lconst (v := (0 : Int64)) hx hb dX8_isNear_148 (by decide) ?_
      refine lv_lstore (lv' := [(5, .long (0 : Int64)), (0, .ref (q 0)), (3, .int x3), (4, .int x4)]) hx hb dX8_isNear_149 hl (by decide) rfl (fun ls hl => ?_)
      refine lv_goto (tgt := 162) hx hb dX8_isNear_151 (by decide) ?_
      refine lv_aload_n hx hb dX8_isNear_162 rfl (lv_at hl 1 rfl) ?_
      refine lv_aload_n hx hb dX8_isNear_163 rfl (lv_at hl 1 rfl) ?_
      refine va_get (D := (dC, dI)) (ci := 8) (v := .ref (q 6)) (C := RX8) (T := TX8) (N := 26) hx hb hts hwX8_isNear_RX8 hown hK hP 0 rfl rfl 5 (by decide) (hts _ mwX8_isNear_6) (fun _ h9 => h9) rfl dX8_isNear_164 ?_
      refine lv_iload hx hb dX8_isNear_167 (lv_at hl 3 rfl) ?_
      refine va_iald (D := (dC, dI)) (cl := vwCl) hx hb hK hP 6 0 rfl rfl g_15 dX8_isNear_169 ?_
      refine lv_lload hx hb dX8_isNear_170 (lv_at hl 0 rfl) ?_
      obtain ⟨u23, hu23, hres⟩ := mi_b hres
      refine call_I C0 (run_V C0 (rest := []) (kX8_given l dC dI q cI cJ cZ zn zm zj zf zr zw zs zfr zto zk zt za zb zq zl zv zo zu zov ztu zsh zle zmo zc zlo zhi  (zt (Int32.toNatClampNeg x4)) (0 : Int64) u23 hu23 _) (cwV 2 hts gX8_isNear_X8_given rfl rfl rfl (by decide +kernel) ⟨by decide, by decide⟩) hP hD (ci := 8) (q0 := 0) rfl rfl rfl hl.1 rfl (Nat.le_of_ble_eq_true rfl) dX8_isNear_172) hD hS (fun H locs hP hD hS => ?_)
      refine lv_if_ne (tgt := 180) hx hb dX8_isNear_175 (by decide) (fun c_24 => ?_) (fun c_24 => ?_)
      · replace hres := mi_n c_24 hres
        refine lv_iinc (v := x3 + (1 : Int32)) (lv' := [(3, .int (x3 + (1 : Int32))), (5, .long (0 : Int64)), (0, .ref (q 0)), (4, .int x4)]) hx hb dX8_isNear_180 hl (k := 2) rfl rfl (by decide) rfl (fun ls hl => ?_)
        refine lv_goto (tgt := 45) hx hb dX8_isNear_183 (by decide) ?_
        exact hk45 u23.2.1 u23.2.2.1 u23.2.2.2 (x3 + (1 : Int32)) _ _ ls hP hD hS (lv_sub hl [2, 0] rfl) hres
      · replace hres := mi_p c_24 hres
        refine lv_iconst (v := (0 : Int32)) hx hb dX8_isNear_178 (by decide) ?_
        obtain rfl := Option.some.inj hres
        exact ret_I (r := (0 : Int32)) C0 rfl hP hD hS dX8_isNear_179
    · rw [lg_cmp_ge] at c_22
      replace hres := mi_n c_22 hres
      refine lv_lconst (v := (1 : Int64)) hx hb dX8_isNear_144 (by decide) ?_
      refine lv_goto (tgt := 149) hx hb dX8_isNear_145 (by decide) ?_
      refine lv_lstore (lv' := [(5, .long (1 : Int64)), (0, .ref (q 0)), (3, .int x3), (4, .int x4)]) hx hb dX8_isNear_149 hl (by decide) rfl (fun ls hl => ?_)
      refine lv_goto (tgt := 162) hx hb dX8_isNear_151 (by decide) ?_
      refine lv_aload_n hx hb dX8_isNear_162 rfl (lv_at hl 1 rfl) ?_
      refine lv_aload_n hx hb dX8_isNear_163 rfl (lv_at hl 1 rfl) ?_
      refine va_get (D := (dC, dI)) (ci := 8) (v := .ref (q 6)) (C := RX8) (T := TX8) (N := 26) hx hb hts hwX8_isNear_RX8 hown hK hP 0 rfl rfl 5 (by decide) (hts _ mwX8_isNear_6) (fun _ h9 => h9) rfl dX8_isNear_164 ?_
      refine lv_iload hx hb dX8_isNear_167 (lv_at hl 3 rfl) ?_
      refine va_iald (D := (dC, dI)) (cl := vwCl) hx hb hK hP 6 0 rfl rfl g_15 dX8_isNear_169 ?_
      refine lv_lload hx hb dX8_isNear_170 (lv_at hl 0 rfl) ?_
      obtain ⟨u25, hu25, hres⟩ := mi_b hres
      refine call_I C0 (run_V C0 (rest := []) (kX8_given l dC dI q cI cJ cZ zn zm zj zf zr zw zs zfr zto zk zt za zb zq zl zv zo zu zov ztu zsh zle zmo zc zlo zhi  (zt (Int32.toNatClampNeg x4)) (1 : Int64) u25 hu25 _) (cwV 2 hts gX8_isNear_X8_given rfl rfl rfl (by decide +kernel) ⟨by decide, by decide⟩) hP hD (ci := 8) (q0 := 0) rfl rfl rfl hl.1 rfl (Nat.le_of_ble_eq_true rfl) dX8_isNear_172) hD hS (fun H locs hP hD hS => ?_)
      refine lv_if_ne (tgt := 180) hx hb dX8_isNear_175 (by decide) (fun c_26 => ?_) (fun c_26 => ?_)
      · replace hres := mi_n c_26 hres
        refine lv_iinc (v := x3 + (1 : Int32)) (lv' := [(3, .int (x3 + (1 : Int32))), (5, .long (1 : Int64)), (0, .ref (q 0)), (4, .int x4)]) hx hb dX8_isNear_180 hl (k := 2) rfl rfl (by decide) rfl (fun ls hl => ?_)
        refine lv_goto (tgt := 45) hx hb dX8_isNear_183 (by decide) ?_
        exact hk45 u25.2.1 u25.2.2.1 u25.2.2.2 (x3 + (1 : Int32)) _ _ ls hP hD hS (lv_sub hl [2, 0] rfl) hres
      · replace hres := mi_p c_26 hres
        refine lv_iconst (v := (0 : Int32)) hx hb dX8_isNear_178 (by decide) ?_
        obtain rfl := Option.some.inj hres
        exact ret_I (r := (0 : Int32)) C0 rfl hP hD hS dX8_isNear_179
set_option maxHeartbeats 4000000 in
set_option maxRecDepth 100000 in
theorem zX8_isNear_L45 {p : Program} {l : Launch} {e : Env} {s : State} {m : MethodId} {args : Array Value} {below : List Frame} {meth : Method} {c : Code} {A : Nat → Prop} {dC : Nat → ClassId} {dI : Nat → Nat → Nat} {q : Nat → Nat} {cI cJ cZ : ClassId} {zn : Int32} {zm : Int32} {zj : Int32} {zf : Int32} {zr : Int32} {zw : Nat → Int32} {zs : Nat → Int32} {zfr : Nat → Int32} {zto : Nat → Int32} {zk : Nat → Int32} {zt : Nat → Int32} {za : Nat → Int32} {zb : Nat → Int32} {zq : Nat → Int32} {zl : Nat → Int32} {zo : Nat → Int32} {zu : Nat → Int32} {zov : Nat → Int32} {ztu : Nat → Int32} {zsh : Nat → Int32} {zle : Nat → Int64} {zmo : Nat → Int64} {zc : Nat → Int32}  (C0 : Cx p s m args meth c cX8_isNear 7 (some .boolean) RX8 wsX8_isNear A (dC, dI) (ty3 cI cJ cZ)) {RES : Int32 × (Nat → Int64) × (Nat → Int64) × (Nat → Int64)}  : ∀ n : Nat, iX8_isNear_L45 p l e s m args below meth c A dC dI q cI cJ cZ zn zm zj zf zr zw zs zfr zto zk zt za zb zq zl zo zu zov ztu zsh zle zmo zc RES (mX8_isNear_L45 zj zw zs zk zt za zb zl n) := by
  have C1 := C0
  obtain ⟨hx, hb, hr, hml, hown, hts, hlocks, hN, hK, hA⟩ := C1
  intro n
  induction n with
  | zero =>
    intro zv zlo zhi x3 H locs ls hP hD hS hl hres
    exact mi_0 hres
  | succ n ih =>
    intro zv zlo zhi x3 H locs ls hP hD hS hl hres
    rw [mX8_isNear_L45] at hres
    refine lv_iload_n hx hb dX8_isNear_45 rfl (lv_at hl 1 rfl) ?_
    refine lv_aload_n hx hb dX8_isNear_46 rfl (lv_at hl 0 rfl) ?_
    refine va_get (D := (dC, dI)) (ci := 8) (v := .int zj) (C := RX8) (T := TX8) (N := 26) hx hb hts hwX8_isNear_RX8 hown hK hP 0 rfl rfl 12 (by decide) (hts _ mwX8_isNear_1) (fun _ h9 => h9) rfl dX8_isNear_47 ?_
    refine lv_icmp_ge (tgt := 186) hx hb dX8_isNear_50 (by decide) (fun c_7 => ?_) (fun c_7 => ?_)
    · replace hres := mi_p c_7 hres
      refine lv_iconst (v := (1 : Int32)) hx hb dX8_isNear_186 (by decide) ?_
      obtain rfl := Option.some.inj hres
      exact ret_I (r := (1 : Int32)) C0 rfl hP hD hS dX8_isNear_187
    · replace hres := mi_n c_7 hres
      refine lv_aload_n hx hb dX8_isNear_53 rfl (lv_at hl 0 rfl) ?_
      refine va_get (D := (dC, dI)) (ci := 8) (v := .ref (q 10)) (C := RX8) (T := TX8) (N := 26) hx hb hts hwX8_isNear_RX8 hown hK hP 0 rfl rfl 11 (by decide) (hts _ mwX8_isNear_2) (fun _ h9 => h9) rfl dX8_isNear_54 ?_
      refine lv_iload_n hx hb dX8_isNear_57 rfl (lv_at hl 1 rfl) ?_
      obtain ⟨g_8, hres⟩ := mi_g hres
      refine va_iald (D := (dC, dI)) (cl := vwCl) hx hb hK hP 10 0 rfl rfl g_8 dX8_isNear_58 ?_
      refine lv_istore (lv' := [(4, .int (zl (Int32.toNatClampNeg x3))), (0, .ref (q 0)), (3, .int x3)]) hx hb dX8_isNear_59 hl (by decide) rfl (fun ls hl => ?_)
      refine lv_aload_n hx hb dX8_isNear_61 rfl (lv_at hl 1 rfl) ?_
      refine va_get (D := (dC, dI)) (ci := 8) (v := .ref (q 5)) (C := RX8) (T := TX8) (N := 26) hx hb hts hwX8_isNear_RX8 hown hK hP 0 rfl rfl 4 (by decide) (hts _ mwX8_isNear_3) (fun _ h9 => h9) rfl dX8_isNear_62 ?_
      refine lv_iload hx hb dX8_isNear_65 (lv_at hl 0 rfl) ?_
      obtain ⟨g_9, hres⟩ := mi_g hres
      refine va_iald (D := (dC, dI)) (cl := vwCl) hx hb hK hP 5 0 rfl rfl g_9 dX8_isNear_67 ?_
      refine lv_iconst (v := (4 : Int32)) hx hb dX8_isNear_68 (by decide) ?_
      refine lv_icmp_ne (tgt := 104) hx hb dX8_isNear_69 (by decide) (fun c_10 => ?_) (fun c_10 => ?_)
      · replace hres := mi_n c_10 hres
        exact zX8_isNear_L104 C0 ih zv zlo zhi x3 (zl (Int32.toNatClampNeg x3)) _ _ ls hP hD hS (lv_sub hl [1, 2, 0] rfl) hres
      · replace hres := mi_p c_10 hres
        refine lv_aload_n hx hb dX8_isNear_72 rfl (lv_at hl 1 rfl) ?_
        refine va_get (D := (dC, dI)) (ci := 8) (v := .ref (q 11)) (C := RX8) (T := TX8) (N := 26) hx hb hts hwX8_isNear_RX8 hown hK hP 0 rfl rfl 13 (by decide) (hts _ mwX8_isNear_0) (fun _ h9 => h9) rfl dX8_isNear_73 ?_
        refine lv_aload_n hx hb dX8_isNear_76 rfl (lv_at hl 1 rfl) ?_
        refine va_get (D := (dC, dI)) (ci := 8) (v := .ref (q 7)) (C := RX8) (T := TX8) (N := 26) hx hb hts hwX8_isNear_RX8 hown hK hP 0 rfl rfl 6 (by decide) (hts _ mwX8_isNear_4) (fun _ h9 => h9) rfl dX8_isNear_77 ?_
        refine lv_iload hx hb dX8_isNear_80 (lv_at hl 0 rfl) ?_
        refine va_iald (D := (dC, dI)) (cl := vwCl) hx hb hK hP 7 0 rfl rfl g_9 dX8_isNear_82 ?_
        obtain ⟨g_11, hres⟩ := mi_g hres
        refine va_lald (D := (dC, dI)) (cl := vwCl) hx hb hK hP 11 1 rfl rfl g_11 dX8_isNear_83 ?_
        refine lv_aload_n hx hb dX8_isNear_84 rfl (lv_at hl 1 rfl) ?_
        refine va_get (D := (dC, dI)) (ci := 8) (v := .ref (q 11)) (C := RX8) (T := TX8) (N := 26) hx hb hts hwX8_isNear_RX8 hown hK hP 0 rfl rfl 13 (by decide) (hts _ mwX8_isNear_0) (fun _ h9 => h9) rfl dX8_isNear_85 ?_
        refine lv_aload_n hx hb dX8_isNear_88 rfl (lv_at hl 1 rfl) ?_
        refine va_get (D := (dC, dI)) (ci := 8) (v := .ref (q 8)) (C := RX8) (T := TX8) (N := 26) hx hb hts hwX8_isNear_RX8 hown hK hP 0 rfl rfl 7 (by decide) (hts _ mwX8_isNear_5) (fun _ h9 => h9) rfl dX8_isNear_89 ?_
        refine lv_iload hx hb dX8_isNear_92 (lv_at hl 0 rfl) ?_
        refine va_iald (D := (dC, dI)) (cl := vwCl) hx hb hK hP 8 0 rfl rfl g_9 dX8_isNear_94 ?_
        obtain ⟨g_12, hres⟩ := mi_g hres
        refine va_lald (D := (dC, dI)) (cl := vwCl) hx hb hK hP 11 1 rfl rfl g_12 dX8_isNear_95 ?_
        obtain ⟨u13, hu13, hres⟩ := mi_b hres
        refine call_I C0 (run_S C0 (rest := []) (kX8_isFarProduct l (dC, dI) (ty3 cI cJ cZ) (wM q cI cJ cZ zn zm zj zf zr zw zs zfr zto zk zt za zb zq zl zv zo zu zov ztu zsh zle zmo zc zlo zhi) (zv (Int32.toNatClampNeg (za (Int32.toNatClampNeg (zl (Int32.toNatClampNeg x3)))))) (zv (Int32.toNatClampNeg (zb (Int32.toNatClampNeg (zl (Int32.toNatClampNeg x3)))))) u13 hu13 _) (va_cwS 2 hts gX8_isNear_X8_isFarProduct rfl rfl rfl (by decide +kernel) ⟨by decide, by decide⟩) hP hD rfl hl.1 rfl (Nat.le_of_ble_eq_true rfl) dX8_isNear_96) hD hS (fun H locs hP hD hS => ?_)
        refine lv_if_eq (tgt := 104) hx hb dX8_isNear_99 (by decide) (fun c_14 => ?_) (fun c_14 => ?_)
        · replace hres := mi_p c_14 hres
          exact zX8_isNear_L104 C0 ih zv zlo zhi x3 (zl (Int32.toNatClampNeg x3)) _ _ ls hP hD hS (lv_sub hl [1, 2, 0] rfl) hres
        · replace hres := mi_n c_14 hres
          refine lv_iconst (v := (0 : Int32)) hx hb dX8_isNear_102 (by decide) ?_
          obtain rfl := Option.some.inj hres
          exact ret_I (r := (0 : Int32)) C0 rfl hP hD hS dX8_isNear_103
set_option maxHeartbeats 4000000 in
set_option maxRecDepth 100000 in
theorem zX8_isNear_L2 {p : Program} {l : Launch} {e : Env} {s : State} {m : MethodId} {args : Array Value} {below : List Frame} {meth : Method} {c : Code} {A : Nat → Prop} {dC : Nat → ClassId} {dI : Nat → Nat → Nat} {q : Nat → Nat} {cI cJ cZ : ClassId} {zn : Int32} {zm : Int32} {zj : Int32} {zf : Int32} {zr : Int32} {zw : Nat → Int32} {zs : Nat → Int32} {zfr : Nat → Int32} {zto : Nat → Int32} {zk : Nat → Int32} {zt : Nat → Int32} {za : Nat → Int32} {zb : Nat → Int32} {zq : Nat → Int32} {zl : Nat → Int32} {zo : Nat → Int32} {zu : Nat → Int32} {zov : Nat → Int32} {ztu : Nat → Int32} {zsh : Nat → Int32} {zle : Nat → Int64} {zmo : Nat → Int64} {zc : Nat → Int32}  (C0 : Cx p s m args meth c cX8_isNear 7 (some .boolean) RX8 wsX8_isNear A (dC, dI) (ty3 cI cJ cZ)) {RES : Int32 × (Nat → Int64) × (Nat → Int64) × (Nat → Int64)}  : ∀ n : Nat, iX8_isNear_L2 p l e s m args below meth c A dC dI q cI cJ cZ zn zm zj zf zr zw zs zfr zto zk zt za zb zq zl zo zu zov ztu zsh zle zmo zc RES (mX8_isNear_L2 zj zw zs zk zt za zb zl n) := by
  have C1 := C0
  obtain ⟨hx, hb, hr, hml, hown, hts, hlocks, hN, hK, hA⟩ := C1
  intro n
  induction n with
  | zero =>
    intro zv zlo zhi x1 x2 x3 H locs ls hP hD hS hl hres
    exact mi_0 hres
  | succ n ih =>
    intro zv zlo zhi x1 x2 x3 H locs ls hP hD hS hl hres
    rw [mX8_isNear_L2] at hres
    refine lv_iload_n hx hb dX8_isNear_2 rfl (lv_at hl 3 rfl) ?_
    refine lv_bipush (v := (6 : Int32)) hx hb dX8_isNear_3 (by decide) ?_
    refine lv_icmp_ge (tgt := 21) hx hb dX8_isNear_5 (by decide) (fun c_1 => ?_) (fun c_1 => ?_)
    · replace hres := mi_p c_1 hres
      refine lv_aload_n hx hb dX8_isNear_21 rfl (lv_at hl 0 rfl) ?_
      refine lv_iconst (v := (0 : Int32)) hx hb dX8_isNear_22 (by decide) ?_
      refine lv_iload_n hx hb dX8_isNear_23 rfl (lv_at hl 1 rfl) ?_
      refine lv_i2l (v := (x1).toInt64) hx hb dX8_isNear_24 rfl ?_
      obtain ⟨u2, hu2, hres⟩ := mi_b hres
      refine call_I C0 (run_V C0 (rest := []) (kX8_given l dC dI q cI cJ cZ zn zm zj zf zr zw zs zfr zto zk zt za zb zq zl zv zo zu zov ztu zsh zle zmo zc zlo zhi  (0 : Int32) ((x1).toInt64) u2 hu2 _) (cwV 2 hts gX8_isNear_X8_given rfl rfl rfl (by decide +kernel) ⟨by decide, by decide⟩) hP hD (ci := 8) (q0 := 0) rfl rfl rfl hl.1 rfl (Nat.le_of_ble_eq_true rfl) dX8_isNear_25) hD hS (fun H locs hP hD hS => ?_)
      refine lv_if_eq (tgt := 41) hx hb dX8_isNear_28 (by decide) (fun c_3 => ?_) (fun c_3 => ?_)
      · replace hres := mi_p c_3 hres
        refine lv_iconst (v := (0 : Int32)) hx hb dX8_isNear_41 (by decide) ?_
        obtain rfl := Option.some.inj hres
        exact ret_I (r := (0 : Int32)) C0 rfl hP hD hS dX8_isNear_42
      · replace hres := mi_n c_3 hres
        refine lv_aload_n hx hb dX8_isNear_31 rfl (lv_at hl 0 rfl) ?_
        refine lv_iconst (v := (1 : Int32)) hx hb dX8_isNear_32 (by decide) ?_
        refine lv_iload_n hx hb dX8_isNear_33 rfl (lv_at hl 2 rfl) ?_
        refine lv_i2l (v := (x2).toInt64) hx hb dX8_isNear_34 rfl ?_
        obtain ⟨u4, hu4, hres⟩ := mi_b hres
        refine call_I C0 (run_V C0 (rest := []) (kX8_given l dC dI q cI cJ cZ zn zm zj zf zr zw zs zfr zto zk zt za zb zq zl u2.2.1 zo zu zov ztu zsh zle zmo zc u2.2.2.1 u2.2.2.2  (1 : Int32) ((x2).toInt64) u4 hu4 _) (cwV 2 hts gX8_isNear_X8_given rfl rfl rfl (by decide +kernel) ⟨by decide, by decide⟩) hP hD (ci := 8) (q0 := 0) rfl rfl rfl hl.1 rfl (Nat.le_of_ble_eq_true rfl) dX8_isNear_35) hD hS (fun H locs hP hD hS => ?_)
        refine lv_if_ne (tgt := 43) hx hb dX8_isNear_38 (by decide) (fun c_5 => ?_) (fun c_5 => ?_)
        · replace hres := mi_n c_5 hres
          refine lv_iconst (v := (0 : Int32)) hx hb dX8_isNear_43 (by decide) ?_
          refine lv_istore_n (lv' := [(3, .int (0 : Int32)), (0, .ref (q 0)), (1, .int x1), (2, .int x2)]) hx hb dX8_isNear_44 rfl hl (by decide) rfl (fun ls hl => ?_)
          exact zX8_isNear_L45 C0  FU u4.2.1 u4.2.2.1 u4.2.2.2 (0 : Int32) _ _ ls hP hD hS (lv_sub hl [1, 0] rfl) hres
        · replace hres := mi_p c_5 hres
          refine lv_iconst (v := (0 : Int32)) hx hb dX8_isNear_41 (by decide) ?_
          obtain rfl := Option.some.inj hres
          exact ret_I (r := (0 : Int32)) C0 rfl hP hD hS dX8_isNear_42
    · replace hres := mi_n c_1 hres
      refine lv_aload_n hx hb dX8_isNear_8 rfl (lv_at hl 0 rfl) ?_
      refine va_get (D := (dC, dI)) (ci := 8) (v := .ref (q 11)) (C := RX8) (T := TX8) (N := 26) hx hb hts hwX8_isNear_RX8 hown hK hP 0 rfl rfl 13 (by decide) (hts _ mwX8_isNear_0) (fun _ h9 => h9) rfl dX8_isNear_9 ?_
      refine lv_iload_n hx hb dX8_isNear_12 rfl (lv_at hl 3 rfl) ?_
      refine lv_lconst (v := (0 : Int64)) hx hb dX8_isNear_13 (by decide) ?_
      obtain ⟨g_6, hres⟩ := mi_g hres
      refine va_last (D := (dC, dI)) (cl := vwCl) hx hb hK hP hD hS 11 1 rfl rfl g_6 dX8_isNear_14 (fun H locs hP hD hS => ?_)
      have hP : va_P (dC, dI) vwCl (wM q cI cJ cZ zn zm zj zf zr zw zs zfr zto zk zt za zb zq zl (vp_updL zv (Int32.toNatClampNeg x3) (0 : Int64)) zo zu zov ztu zsh zle zmo zc zlo zhi) H := hP
      have hD : va_D A (wM q cI cJ cZ zn zm zj zf zr zw zs zfr zto zk zt za zb zq zl (vp_updL zv (Int32.toNatClampNeg x3) (0 : Int64)) zo zu zov ztu zsh zle zmo zc zlo zhi) := hD
      refine lv_iinc (v := x3 + (1 : Int32)) (lv' := [(3, .int (x3 + (1 : Int32))), (0, .ref (q 0)), (1, .int x1), (2, .int x2)]) hx hb dX8_isNear_15 hl (k := 3) rfl rfl (by decide) rfl (fun ls hl => ?_)
      refine lv_goto (tgt := 2) hx hb dX8_isNear_18 (by decide) ?_
      exact ih (vp_updL zv (Int32.toNatClampNeg x3) (0 : Int64)) zlo zhi x1 x2 (x3 + (1 : Int32)) _ _ ls hP hD hS (lv_sub hl [1, 2, 3, 0] rfl) hres
set_option maxHeartbeats 4000000 in
set_option maxRecDepth 100000 in
theorem kX8_isNear (l : Launch) (dC : Nat → ClassId) (dI : Nat → Nat → Nat) (q : Nat → Nat) (cI cJ cZ : ClassId) (zn : Int32) (zm : Int32) (zj : Int32) (zf : Int32) (zr : Int32) (zw : Nat → Int32) (zs : Nat → Int32) (zfr : Nat → Int32) (zto : Nat → Int32) (zk : Nat → Int32) (zt : Nat → Int32) (za : Nat → Int32) (zb : Nat → Int32) (zq : Nat → Int32) (zl : Nat → Int32) (zv : Nat → Int64) (zo : Nat → Int32) (zu : Nat → Int32) (zov : Nat → Int32) (ztu : Nat → Int32) (zsh : Nat → Int32) (zle : Nat → Int64) (zmo : Nat → Int64) (zc : Nat → Int32) (zlo : Nat → Int64) (zhi : Nat → Int64) (x1 : Int32) (x2 : Int32) (RES : Int32 × (Nat → Int64) × (Nat → Int64) × (Nat → Int64)) (hres : mX8_isNear zj zw zs zk zt za zb zl zv zlo zhi x1 x2 = some RES) : CtI l yX8_isNear wsX8_isNear rmX8_isNear (dC, dI) (ty3 cI cJ cZ) (wM q cI cJ cZ zn zm zj zf zr zw zs zfr zto zk zt za zb zq zl zv zo zu zov ztu zsh zle zmo zc zlo zhi) [.ref (q 0), .int x1, .int x2] RES.1 (wM q cI cJ cZ zn zm zj zf zr zw zs zfr zto zk zt za zb zq zl RES.2.1 zo zu zov ztu zsh zle zmo zc RES.2.2.1 RES.2.2.2) := by
  intro sz
  refine ct_entry (cc := cX8_isNear) (maxL := 7) (ret := some .boolean) (own := RX8) (by decide) rfl rfl (Nat.le_of_ble_eq_true rfl) (ll := [(0, .ref (q 0)), (1, .int x1), (2, .int x2)]) rfl ?_
  intro p e s m args below meth c hsz C0 _ hP hD ls hl
  have C1 := C0
  obtain ⟨hx, hb, hr, hml, hown, hts, hlocks, hN, hK, hA⟩ := C1
  have hS : va_S (va_A (wM q cI cJ cZ zn zm zj zf zr zw zs zfr zto zk zt za zb zq zl zv zo zu zov ztu zsh zle zmo zc zlo zhi) sz) s.heap s.heap [] := va_S.rf
  generalize va_A (wM q cI cJ cZ zn zm zj zf zr zw zs zfr zto zk zt za zb zq zl zv zo zu zov ztu zsh zle zmo zc zlo zhi) sz = A at C0 hD hA hS ⊢
  show W p l e rmX8_isNear s m args below meth c s.heap [] 0 0 (QI below args s A (dC, dI) (ty3 cI cJ cZ) RES.1 (wM q cI cJ cZ zn zm zj zf zr zw zs zfr zto zk zt za zb zq zl RES.2.1 zo zu zov ztu zsh zle zmo zc RES.2.2.1 RES.2.2.2)) (F0 m 0 ls [])
  unfold mX8_isNear at hres
  refine lv_iconst (v := (0 : Int32)) hx hb dX8_isNear_0 (by decide) ?_
  refine lv_istore_n (lv' := [(3, .int (0 : Int32)), (0, .ref (q 0)), (1, .int x1), (2, .int x2)]) hx hb dX8_isNear_1 rfl hl (by decide) rfl (fun ls hl => ?_)
  exact zX8_isNear_L2 C0  FU zv zlo zhi x1 x2 (0 : Int32) _ _ ls hP hD hS (lv_sub hl [1, 2, 3, 0] rfl) hres
/-! ### SumsOverModel.needs()Z -/
set_option maxRecDepth 20000 in
theorem hwX8_needs_RX8 : ∀ w ∈ u_ws RX8 TX8 26, w ∈ wsX8_needs := by decide +kernel
theorem mwX8_needs_0 : (.fieldLink RX8 17 "SumsOverModel" "from" "[I" : Cond) ∈ wsX8_needs := by decide +kernel
theorem mwX8_needs_1 : (.fieldLink RX8 69 "SumsOverModel" "lowest" "[J" : Cond) ∈ wsX8_needs := by decide +kernel
theorem mwX8_needs_2 : (.fieldLink RX8 72 "SumsOverModel" "highest" "[J" : Cond) ∈ wsX8_needs := by decide +kernel
theorem mwX8_needs_3 : (.fieldLink RX8 20 "SumsOverModel" "to" "[I" : Cond) ∈ wsX8_needs := by decide +kernel
def rmX8_needs : Room := { frames := 4, cells := 0, slots := 0, locals := 99 }
def iX8_needs_L62 (p : Program) (l : Launch) (e : Env) (s : State) (m : MethodId) (args : Array Value) (below : List Frame) (meth : Method) (c : Code) (A : Nat → Prop) (dC : Nat → ClassId) (dI : Nat → Nat → Nat) (q : Nat → Nat) (cI cJ cZ : ClassId) (zn : Int32) (zm : Int32) (zf : Int32) (zr : Int32) (zw : Nat → Int32) (zs : Nat → Int32) (zfr : Nat → Int32) (zto : Nat → Int32) (zk : Nat → Int32) (zt : Nat → Int32) (za : Nat → Int32) (zb : Nat → Int32) (zq : Nat → Int32) (zo : Nat → Int32) (zu : Nat → Int32) (zov : Nat → Int32) (ztu : Nat → Int32) (zsh : Nat → Int32) (zle : Nat → Int64) (zmo : Nat → Int64) (zc : Nat → Int32)  (RES : Int32 × (Int32) × (Nat → Int32) × (Nat → Int64) × (Nat → Int64) × (Nat → Int64)) (k : (Int32) → (Nat → Int32) → (Nat → Int64) → (Nat → Int64) → (Nat → Int64) → (Int32) → (Int32) → (Int32) → Option (Int32 × (Int32) × (Nat → Int32) × (Nat → Int64) × (Nat → Int64) × (Nat → Int64))) : Prop := ∀ (zj : Int32) (zl : Nat → Int32) (zv : Nat → Int64) (zlo : Nat → Int64) (zhi : Nat → Int64) (x1 : Int32) (x2 : Int32) (x3 : Int32) (H : Heap) (locs : List Loc) (ls : Array Slot), va_P (dC, dI) vwCl (wM q cI cJ cZ zn zm zj zf zr zw zs zfr zto zk zt za zb zq zl zv zo zu zov ztu zsh zle zmo zc zlo zhi) H → va_D A (wM q cI cJ cZ zn zm zj zf zr zw zs zfr zto zk zt za zb zq zl zv zo zu zov ztu zsh zle zmo zc zlo zhi) → va_S A s.heap H locs → lv_has ls 4 [(0, .ref (q 0)), (1, .int x1), (2, .int x2), (3, .int x3)] → k zj zl zv zlo zhi x1 x2 x3 = some RES → W p l e rmX8_needs s m args below meth c H locs 0 0 (QI below args s A (dC, dI) (ty3 cI cJ cZ) RES.1 (wM q cI cJ cZ zn zm RES.2.1 zf zr zw zs zfr zto zk zt za zb zq RES.2.2.1 RES.2.2.2.1 zo zu zov ztu zsh zle zmo zc RES.2.2.2.2.1 RES.2.2.2.2.2)) (F0 m 62 ls [])
def iX8_needs_L41 (p : Program) (l : Launch) (e : Env) (s : State) (m : MethodId) (args : Array Value) (below : List Frame) (meth : Method) (c : Code) (A : Nat → Prop) (dC : Nat → ClassId) (dI : Nat → Nat → Nat) (q : Nat → Nat) (cI cJ cZ : ClassId) (zn : Int32) (zm : Int32) (zf : Int32) (zr : Int32) (zw : Nat → Int32) (zs : Nat → Int32) (zfr : Nat → Int32) (zto : Nat → Int32) (zk : Nat → Int32) (zt : Nat → Int32) (za : Nat → Int32) (zb : Nat → Int32) (zq : Nat → Int32) (zo : Nat → Int32) (zu : Nat → Int32) (zov : Nat → Int32) (ztu : Nat → Int32) (zsh : Nat → Int32) (zle : Nat → Int64) (zmo : Nat → Int64) (zc : Nat → Int32)  (RES : Int32 × (Int32) × (Nat → Int32) × (Nat → Int64) × (Nat → Int64) × (Nat → Int64)) (k : (Int32) → (Nat → Int32) → (Nat → Int64) → (Nat → Int64) → (Nat → Int64) → (Int32) → (Int32) → Option (Int32 × (Int32) × (Nat → Int32) × (Nat → Int64) × (Nat → Int64) × (Nat → Int64))) : Prop := ∀ (zj : Int32) (zl : Nat → Int32) (zv : Nat → Int64) (zlo : Nat → Int64) (zhi : Nat → Int64) (x1 : Int32) (x2 : Int32) (H : Heap) (locs : List Loc) (ls : Array Slot), va_P (dC, dI) vwCl (wM q cI cJ cZ zn zm zj zf zr zw zs zfr zto zk zt za zb zq zl zv zo zu zov ztu zsh zle zmo zc zlo zhi) H → va_D A (wM q cI cJ cZ zn zm zj zf zr zw zs zfr zto zk zt za zb zq zl zv zo zu zov ztu zsh zle zmo zc zlo zhi) → va_S A s.heap H locs → lv_has ls 4 [(0, .ref (q 0)), (1, .int x1), (2, .int x2)] → k zj zl zv zlo zhi x1 x2 = some RES → W p l e rmX8_needs s m args below meth c H locs 0 0 (QI below args s A (dC, dI) (ty3 cI cJ cZ) RES.1 (wM q cI cJ cZ zn zm RES.2.1 zf zr zw zs zfr zto zk zt za zb zq RES.2.2.1 RES.2.2.2.1 zo zu zov ztu zsh zle zmo zc RES.2.2.2.2.1 RES.2.2.2.2.2)) (F0 m 41 ls [])
def iX8_needs_L6 (p : Program) (l : Launch) (e : Env) (s : State) (m : MethodId) (args : Array Value) (below : List Frame) (meth : Method) (c : Code) (A : Nat → Prop) (dC : Nat → ClassId) (dI : Nat → Nat → Nat) (q : Nat → Nat) (cI cJ cZ : ClassId) (zn : Int32) (zm : Int32) (zf : Int32) (zr : Int32) (zw : Nat → Int32) (zs : Nat → Int32) (zfr : Nat → Int32) (zto : Nat → Int32) (zk : Nat → Int32) (zt : Nat → Int32) (za : Nat → Int32) (zb : Nat → Int32) (zq : Nat → Int32) (zo : Nat → Int32) (zu : Nat → Int32) (zov : Nat → Int32) (ztu : Nat → Int32) (zsh : Nat → Int32) (zle : Nat → Int64) (zmo : Nat → Int64) (zc : Nat → Int32)  (RES : Int32 × (Int32) × (Nat → Int32) × (Nat → Int64) × (Nat → Int64) × (Nat → Int64)) (k : (Int32) → (Nat → Int32) → (Nat → Int64) → (Nat → Int64) → (Nat → Int64) → (Int32) → Option (Int32 × (Int32) × (Nat → Int32) × (Nat → Int64) × (Nat → Int64) × (Nat → Int64))) : Prop := ∀ (zj : Int32) (zl : Nat → Int32) (zv : Nat → Int64) (zlo : Nat → Int64) (zhi : Nat → Int64) (x1 : Int32) (H : Heap) (locs : List Loc) (ls : Array Slot), va_P (dC, dI) vwCl (wM q cI cJ cZ zn zm zj zf zr zw zs zfr zto zk zt za zb zq zl zv zo zu zov ztu zsh zle zmo zc zlo zhi) H → va_D A (wM q cI cJ cZ zn zm zj zf zr zw zs zfr zto zk zt za zb zq zl zv zo zu zov ztu zsh zle zmo zc zlo zhi) → va_S A s.heap H locs → lv_has ls 4 [(0, .ref (q 0)), (1, .int x1)] → k zj zl zv zlo zhi x1 = some RES → W p l e rmX8_needs s m args below meth c H locs 0 0 (QI below args s A (dC, dI) (ty3 cI cJ cZ) RES.1 (wM q cI cJ cZ zn zm RES.2.1 zf zr zw zs zfr zto zk zt za zb zq RES.2.2.1 RES.2.2.2.1 zo zu zov ztu zsh zle zmo zc RES.2.2.2.2.1 RES.2.2.2.2.2)) (F0 m 6 ls [])
set_option maxHeartbeats 4000000 in
set_option maxRecDepth 100000 in
theorem zX8_needs_L62 {p : Program} {l : Launch} {e : Env} {s : State} {m : MethodId} {args : Array Value} {below : List Frame} {meth : Method} {c : Code} {A : Nat → Prop} {dC : Nat → ClassId} {dI : Nat → Nat → Nat} {q : Nat → Nat} {cI cJ cZ : ClassId} {zn : Int32} {zm : Int32} {zf : Int32} {zr : Int32} {zw : Nat → Int32} {zs : Nat → Int32} {zfr : Nat → Int32} {zto : Nat → Int32} {zk : Nat → Int32} {zt : Nat → Int32} {za : Nat → Int32} {zb : Nat → Int32} {zq : Nat → Int32} {zo : Nat → Int32} {zu : Nat → Int32} {zov : Nat → Int32} {ztu : Nat → Int32} {zsh : Nat → Int32} {zle : Nat → Int64} {zmo : Nat → Int64} {zc : Nat → Int32}  (C0 : Cx p s m args meth c cX8_needs 4 (some .boolean) RX8 wsX8_needs A (dC, dI) (ty3 cI cJ cZ)) {RES : Int32 × (Int32) × (Nat → Int32) × (Nat → Int64) × (Nat → Int64) × (Nat → Int64)} {k41 : (Int32) → (Nat → Int32) → (Nat → Int64) → (Nat → Int64) → (Nat → Int64) → (Int32) → (Int32) → Option (Int32 × (Int32) × (Nat → Int32) × (Nat → Int64) × (Nat → Int64) × (Nat → Int64))} (hk41 : iX8_needs_L41 p l e s m args below meth c A dC dI q cI cJ cZ zn zm zf zr zw zs zfr zto zk zt za zb zq zo zu zov ztu zsh zle zmo zc RES k41) : ∀ n : Nat, iX8_needs_L62 p l e s m args below meth c A dC dI q cI cJ cZ zn zm zf zr zw zs zfr zto zk zt za zb zq zo zu zov ztu zsh zle zmo zc RES (mX8_needs_L62 zn zw zs zfr zto zk zt za zb k41 n) := by
  have C1 := C0
  obtain ⟨hx, hb, hr, hml, hown, hts, hlocks, hN, hK, hA⟩ := C1
  intro n
  induction n with
  | zero =>
    intro zj zl zv zlo zhi x1 x2 x3 H locs ls hP hD hS hl hres
    exact mi_0 hres
  | succ n ih =>
    intro zj zl zv zlo zhi x1 x2 x3 H locs ls hP hD hS hl hres
    rw [mX8_needs_L62] at hres
    refine lv_iload_n hx hb dX8_needs_62 rfl (lv_at hl 3 rfl) ?_
    refine lv_aload_n hx hb dX8_needs_63 rfl (lv_at hl 0 rfl) ?_
    refine va_get (D := (dC, dI)) (ci := 8) (v := .ref (q 4)) (C := RX8) (T := TX8) (N := 26) hx hb hts hwX8_needs_RX8 hown hK hP 0 rfl rfl 3 (by decide) (hts _ mwX8_needs_3) (fun _ h9 => h9) rfl dX8_needs_64 ?_
    refine lv_iconst (v := (1 : Int32)) hx hb dX8_needs_67 (by decide) ?_
    refine va_iald (D := (dC, dI)) (cl := vwCl) hx hb hK hP 4 0 rfl rfl (show ¬ ((1 : Int32) < 0 ∨ 2 ≤ Int32.toNatClampNeg (1 : Int32)) by decide) dX8_needs_68 ?_
    refine lv_icmp_gt (tgt := 89) hx hb dX8_needs_69 (by decide) (fun c_8 => ?_) (fun c_8 => ?_)
    · replace hres := mi_p c_8 hres
      refine lv_iinc (v := x2 + (1 : Int32)) (lv' := [(2, .int (x2 + (1 : Int32))), (0, .ref (q 0)), (1, .int x1), (3, .int x3)]) hx hb dX8_needs_89 hl (k := 2) rfl rfl (by decide) rfl (fun ls hl => ?_)
      refine lv_goto (tgt := 41) hx hb dX8_needs_92 (by decide) ?_
      exact hk41 zj zl zv zlo zhi x1 (x2 + (1 : Int32)) _ _ ls hP hD hS (lv_sub hl [1, 2, 0] rfl) hres
    · replace hres := mi_n c_8 hres
      refine lv_iload_n hx hb dX8_needs_72 rfl (lv_at hl 1 rfl) ?_
      refine lv_if_eq (tgt := 89) hx hb dX8_needs_73 (by decide) (fun c_9 => ?_) (fun c_9 => ?_)
      · replace hres := mi_p c_9 hres
        refine lv_iinc (v := x2 + (1 : Int32)) (lv' := [(2, .int (x2 + (1 : Int32))), (0, .ref (q 0)), (1, .int x1), (3, .int x3)]) hx hb dX8_needs_89 hl (k := 2) rfl rfl (by decide) rfl (fun ls hl => ?_)
        refine lv_goto (tgt := 41) hx hb dX8_needs_92 (by decide) ?_
        exact hk41 zj zl zv zlo zhi x1 (x2 + (1 : Int32)) _ _ ls hP hD hS (lv_sub hl [1, 2, 0] rfl) hres
      · replace hres := mi_n c_9 hres
        refine lv_aload_n hx hb dX8_needs_76 rfl (lv_at hl 0 rfl) ?_
        refine lv_iload_n hx hb dX8_needs_77 rfl (lv_at hl 2 rfl) ?_
        refine lv_iload_n hx hb dX8_needs_78 rfl (lv_at hl 3 rfl) ?_
        obtain ⟨u10, hu10, hres⟩ := mi_b hres
        refine call_I C0 (run_V C0 (rest := []) (kX8_isNear l dC dI q cI cJ cZ zn zm zj zf zr zw zs zfr zto zk zt za zb zq zl zv zo zu zov ztu zsh zle zmo zc zlo zhi  x2 x3 u10 hu10 _) (cwV 2 hts gX8_needs_X8_isNear rfl rfl rfl (by decide +kernel) ⟨by decide, by decide⟩) hP hD (ci := 8) (q0 := 0) rfl rfl rfl hl.1 rfl (Nat.le_of_ble_eq_true rfl) dX8_needs_79) hD hS (fun H locs hP hD hS => ?_)
        refine lv_istore_n (lv' := [(1, .int u10.1), (0, .ref (q 0)), (2, .int x2), (3, .int x3)]) hx hb dX8_needs_82 rfl hl (by decide) rfl (fun ls hl => ?_)
        refine lv_iinc (v := x3 + (1 : Int32)) (lv' := [(3, .int (x3 + (1 : Int32))), (1, .int u10.1), (0, .ref (q 0)), (2, .int x2)]) hx hb dX8_needs_83 hl (k := 3) rfl rfl (by decide) rfl (fun ls hl => ?_)
        refine lv_goto (tgt := 62) hx hb dX8_needs_86 (by decide) ?_
        exact ih zj zl u10.2.1 u10.2.2.1 u10.2.2.2 u10.1 x2 (x3 + (1 : Int32)) _ _ ls hP hD hS (lv_sub hl [2, 1, 3, 0] rfl) hres
set_option maxHeartbeats 4000000 in
set_option maxRecDepth 100000 in
theorem zX8_needs_L41 {p : Program} {l : Launch} {e : Env} {s : State} {m : MethodId} {args : Array Value} {below : List Frame} {meth : Method} {c : Code} {A : Nat → Prop} {dC : Nat → ClassId} {dI : Nat → Nat → Nat} {q : Nat → Nat} {cI cJ cZ : ClassId} {zn : Int32} {zm : Int32} {zf : Int32} {zr : Int32} {zw : Nat → Int32} {zs : Nat → Int32} {zfr : Nat → Int32} {zto : Nat → Int32} {zk : Nat → Int32} {zt : Nat → Int32} {za : Nat → Int32} {zb : Nat → Int32} {zq : Nat → Int32} {zo : Nat → Int32} {zu : Nat → Int32} {zov : Nat → Int32} {ztu : Nat → Int32} {zsh : Nat → Int32} {zle : Nat → Int64} {zmo : Nat → Int64} {zc : Nat → Int32}  (C0 : Cx p s m args meth c cX8_needs 4 (some .boolean) RX8 wsX8_needs A (dC, dI) (ty3 cI cJ cZ)) {RES : Int32 × (Int32) × (Nat → Int32) × (Nat → Int64) × (Nat → Int64) × (Nat → Int64)}  : ∀ n : Nat, iX8_needs_L41 p l e s m args below meth c A dC dI q cI cJ cZ zn zm zf zr zw zs zfr zto zk zt za zb zq zo zu zov ztu zsh zle zmo zc RES (mX8_needs_L41 zn zw zs zfr zto zk zt za zb n) := by
  have C1 := C0
  obtain ⟨hx, hb, hr, hml, hown, hts, hlocks, hN, hK, hA⟩ := C1
  intro n
  induction n with
  | zero =>
    intro zj zl zv zlo zhi x1 x2 H locs ls hP hD hS hl hres
    exact mi_0 hres
  | succ n ih =>
    intro zj zl zv zlo zhi x1 x2 H locs ls hP hD hS hl hres
    rw [mX8_needs_L41] at hres
    refine lv_iload_n hx hb dX8_needs_41 rfl (lv_at hl 2 rfl) ?_
    refine lv_aload_n hx hb dX8_needs_42 rfl (lv_at hl 0 rfl) ?_
    refine va_get (D := (dC, dI)) (ci := 8) (v := .ref (q 4)) (C := RX8) (T := TX8) (N := 26) hx hb hts hwX8_needs_RX8 hown hK hP 0 rfl rfl 3 (by decide) (hts _ mwX8_needs_3) (fun _ h9 => h9) rfl dX8_needs_43 ?_
    refine lv_iconst (v := (0 : Int32)) hx hb dX8_needs_46 (by decide) ?_
    refine va_iald (D := (dC, dI)) (cl := vwCl) hx hb hK hP 4 0 rfl rfl (show ¬ ((0 : Int32) < 0 ∨ 2 ≤ Int32.toNatClampNeg (0 : Int32)) by decide) dX8_needs_47 ?_
    refine lv_icmp_gt (tgt := 95) hx hb dX8_needs_48 (by decide) (fun c_4 => ?_) (fun c_4 => ?_)
    · replace hres := mi_p c_4 hres
      refine lv_iload_n hx hb dX8_needs_95 rfl (lv_at hl 1 rfl) ?_
      obtain ⟨g_5, hres⟩ := mi_g hres
      obtain rfl := Option.some.inj hres
      exact ret_I (r := x1) C0 (narrow_z (Decidable.not_not.mp g_5)) hP hD hS dX8_needs_96
    · replace hres := mi_n c_4 hres
      refine lv_iload_n hx hb dX8_needs_51 rfl (lv_at hl 1 rfl) ?_
      refine lv_if_eq (tgt := 95) hx hb dX8_needs_52 (by decide) (fun c_6 => ?_) (fun c_6 => ?_)
      · replace hres := mi_p c_6 hres
        refine lv_iload_n hx hb dX8_needs_95 rfl (lv_at hl 1 rfl) ?_
        obtain ⟨g_7, hres⟩ := mi_g hres
        obtain rfl := Option.some.inj hres
        exact ret_I (r := x1) C0 (narrow_z (Decidable.not_not.mp g_7)) hP hD hS dX8_needs_96
      · replace hres := mi_n c_6 hres
        refine lv_aload_n hx hb dX8_needs_55 rfl (lv_at hl 0 rfl) ?_
        refine va_get (D := (dC, dI)) (ci := 8) (v := .ref (q 3)) (C := RX8) (T := TX8) (N := 26) hx hb hts hwX8_needs_RX8 hown hK hP 0 rfl rfl 2 (by decide) (hts _ mwX8_needs_0) (fun _ h9 => h9) rfl dX8_needs_56 ?_
        refine lv_iconst (v := (1 : Int32)) hx hb dX8_needs_59 (by decide) ?_
        refine va_iald (D := (dC, dI)) (cl := vwCl) hx hb hK hP 3 0 rfl rfl (show ¬ ((1 : Int32) < 0 ∨ 2 ≤ Int32.toNatClampNeg (1 : Int32)) by decide) dX8_needs_60 ?_
        refine lv_istore_n (lv' := [(3, .int (zfr (Int32.toNatClampNeg (1 : Int32)))), (0, .ref (q 0)), (1, .int x1), (2, .int x2)]) hx hb dX8_needs_61 rfl hl (by decide) rfl (fun ls hl => ?_)
        exact zX8_needs_L62 C0 ih FU zj zl zv zlo zhi x1 x2 (zfr (Int32.toNatClampNeg (1 : Int32))) _ _ ls hP hD hS (lv_sub hl [1, 2, 3, 0] rfl) hres
set_option maxHeartbeats 4000000 in
set_option maxRecDepth 100000 in
theorem zX8_needs_L6 {p : Program} {l : Launch} {e : Env} {s : State} {m : MethodId} {args : Array Value} {below : List Frame} {meth : Method} {c : Code} {A : Nat → Prop} {dC : Nat → ClassId} {dI : Nat → Nat → Nat} {q : Nat → Nat} {cI cJ cZ : ClassId} {zn : Int32} {zm : Int32} {zf : Int32} {zr : Int32} {zw : Nat → Int32} {zs : Nat → Int32} {zfr : Nat → Int32} {zto : Nat → Int32} {zk : Nat → Int32} {zt : Nat → Int32} {za : Nat → Int32} {zb : Nat → Int32} {zq : Nat → Int32} {zo : Nat → Int32} {zu : Nat → Int32} {zov : Nat → Int32} {ztu : Nat → Int32} {zsh : Nat → Int32} {zle : Nat → Int64} {zmo : Nat → Int64} {zc : Nat → Int32}  (C0 : Cx p s m args meth c cX8_needs 4 (some .boolean) RX8 wsX8_needs A (dC, dI) (ty3 cI cJ cZ)) {RES : Int32 × (Int32) × (Nat → Int32) × (Nat → Int64) × (Nat → Int64) × (Nat → Int64)}  : ∀ n : Nat, iX8_needs_L6 p l e s m args below meth c A dC dI q cI cJ cZ zn zm zf zr zw zs zfr zto zk zt za zb zq zo zu zov ztu zsh zle zmo zc RES (mX8_needs_L6 zn zw zs zfr zto zk zt za zb n) := by
  have C1 := C0
  obtain ⟨hx, hb, hr, hml, hown, hts, hlocks, hN, hK, hA⟩ := C1
  intro n
  induction n with
  | zero =>
    intro zj zl zv zlo zhi x1 H locs ls hP hD hS hl hres
    exact mi_0 hres
  | succ n ih =>
    intro zj zl zv zlo zhi x1 H locs ls hP hD hS hl hres
    rw [mX8_needs_L6] at hres
    refine lv_iload_n hx hb dX8_needs_6 rfl (lv_at hl 1 rfl) ?_
    refine lv_bipush (v := (6 : Int32)) hx hb dX8_needs_7 (by decide) ?_
    refine lv_icmp_ge (tgt := 32) hx hb dX8_needs_9 (by decide) (fun c_2 => ?_) (fun c_2 => ?_)
    · replace hres := mi_p c_2 hres
      refine lv_iconst (v := (1 : Int32)) hx hb dX8_needs_32 (by decide) ?_
      refine lv_istore_n (lv' := [(1, .int (1 : Int32)), (0, .ref (q 0))]) hx hb dX8_needs_33 rfl hl (by decide) rfl (fun ls hl => ?_)
      refine lv_aload_n hx hb dX8_needs_34 rfl (lv_at hl 1 rfl) ?_
      refine va_get (D := (dC, dI)) (ci := 8) (v := .ref (q 3)) (C := RX8) (T := TX8) (N := 26) hx hb hts hwX8_needs_RX8 hown hK hP 0 rfl rfl 2 (by decide) (hts _ mwX8_needs_0) (fun _ h9 => h9) rfl dX8_needs_35 ?_
      refine lv_iconst (v := (0 : Int32)) hx hb dX8_needs_38 (by decide) ?_
      refine va_iald (D := (dC, dI)) (cl := vwCl) hx hb hK hP 3 0 rfl rfl (show ¬ ((0 : Int32) < 0 ∨ 2 ≤ Int32.toNatClampNeg (0 : Int32)) by decide) dX8_needs_39 ?_
      refine lv_istore_n (lv' := [(2, .int (zfr (Int32.toNatClampNeg (0 : Int32)))), (1, .int (1 : Int32)), (0, .ref (q 0))]) hx hb dX8_needs_40 rfl hl (by decide) rfl (fun ls hl => ?_)
      exact zX8_needs_L41 C0  FU zj zl zv zlo zhi (1 : Int32) (zfr (Int32.toNatClampNeg (0 : Int32))) _ _ ls hP hD hS (lv_sub hl [2, 1, 0] rfl) hres
    · replace hres := mi_n c_2 hres
      refine lv_aload_n hx hb dX8_needs_12 rfl (lv_at hl 0 rfl) ?_
      refine va_get (D := (dC, dI)) (ci := 8) (v := .ref (q 20)) (C := RX8) (T := TX8) (N := 26) hx hb hts hwX8_needs_RX8 hown hK hP 0 rfl rfl 24 (by decide) (hts _ mwX8_needs_1) (fun _ h9 => h9) rfl dX8_needs_13 ?_
      refine lv_iload_n hx hb dX8_needs_16 rfl (lv_at hl 1 rfl) ?_
      refine lv_lconst (v := (0 : Int64)) hx hb dX8_needs_17 (by decide) ?_
      obtain ⟨g_3, hres⟩ := mi_g hres
      refine va_last (D := (dC, dI)) (cl := vwCl) hx hb hK hP hD hS 20 1 rfl rfl g_3 dX8_needs_18 (fun H locs hP hD hS => ?_)
      have hP : va_P (dC, dI) vwCl (wM q cI cJ cZ zn zm zj zf zr zw zs zfr zto zk zt za zb zq zl zv zo zu zov ztu zsh zle zmo zc (vp_updL zlo (Int32.toNatClampNeg x1) (0 : Int64)) zhi) H := hP
      have hD : va_D A (wM q cI cJ cZ zn zm zj zf zr zw zs zfr zto zk zt za zb zq zl zv zo zu zov ztu zsh zle zmo zc (vp_updL zlo (Int32.toNatClampNeg x1) (0 : Int64)) zhi) := hD
      refine lv_aload_n hx hb dX8_needs_19 rfl (lv_at hl 0 rfl) ?_
      refine va_get (D := (dC, dI)) (ci := 8) (v := .ref (q 21)) (C := RX8) (T := TX8) (N := 26) hx hb hts hwX8_needs_RX8 hown hK hP 0 rfl rfl 25 (by decide) (hts _ mwX8_needs_2) (fun _ h9 => h9) rfl dX8_needs_20 ?_
      refine lv_iload_n hx hb dX8_needs_23 rfl (lv_at hl 1 rfl) ?_
      refine lv_lconst (v := (0 : Int64)) hx hb dX8_needs_24 (by decide) ?_
      refine va_last (D := (dC, dI)) (cl := vwCl) hx hb hK hP hD hS 21 1 rfl rfl g_3 dX8_needs_25 (fun H locs hP hD hS => ?_)
      have hP : va_P (dC, dI) vwCl (wM q cI cJ cZ zn zm zj zf zr zw zs zfr zto zk zt za zb zq zl zv zo zu zov ztu zsh zle zmo zc (vp_updL zlo (Int32.toNatClampNeg x1) (0 : Int64)) (vp_updL zhi (Int32.toNatClampNeg x1) (0 : Int64))) H := hP
      have hD : va_D A (wM q cI cJ cZ zn zm zj zf zr zw zs zfr zto zk zt za zb zq zl zv zo zu zov ztu zsh zle zmo zc (vp_updL zlo (Int32.toNatClampNeg x1) (0 : Int64)) (vp_updL zhi (Int32.toNatClampNeg x1) (0 : Int64))) := hD
      refine lv_iinc (v := x1 + (1 : Int32)) (lv' := [(1, .int (x1 + (1 : Int32))), (0, .ref (q 0))]) hx hb dX8_needs_26 hl (k := 1) rfl rfl (by decide) rfl (fun ls hl => ?_)
      refine lv_goto (tgt := 6) hx hb dX8_needs_29 (by decide) ?_
      exact ih zj zl zv (vp_updL zlo (Int32.toNatClampNeg x1) (0 : Int64)) (vp_updL zhi (Int32.toNatClampNeg x1) (0 : Int64)) (x1 + (1 : Int32)) _ _ ls hP hD hS (lv_sub hl [1, 0] rfl) hres
set_option maxHeartbeats 4000000 in
set_option maxRecDepth 100000 in
theorem kX8_needs (l : Launch) (dC : Nat → ClassId) (dI : Nat → Nat → Nat) (q : Nat → Nat) (cI cJ cZ : ClassId) (zn : Int32) (zm : Int32) (zj : Int32) (zf : Int32) (zr : Int32) (zw : Nat → Int32) (zs : Nat → Int32) (zfr : Nat → Int32) (zto : Nat → Int32) (zk : Nat → Int32) (zt : Nat → Int32) (za : Nat → Int32) (zb : Nat → Int32) (zq : Nat → Int32) (zl : Nat → Int32) (zv : Nat → Int64) (zo : Nat → Int32) (zu : Nat → Int32) (zov : Nat → Int32) (ztu : Nat → Int32) (zsh : Nat → Int32) (zle : Nat → Int64) (zmo : Nat → Int64) (zc : Nat → Int32) (zlo : Nat → Int64) (zhi : Nat → Int64)  (RES : Int32 × (Int32) × (Nat → Int32) × (Nat → Int64) × (Nat → Int64) × (Nat → Int64)) (hres : mX8_needs zn zj zw zs zfr zto zk zt za zb zl zv zlo zhi = some RES) : CtI l yX8_needs wsX8_needs rmX8_needs (dC, dI) (ty3 cI cJ cZ) (wM q cI cJ cZ zn zm zj zf zr zw zs zfr zto zk zt za zb zq zl zv zo zu zov ztu zsh zle zmo zc zlo zhi) [.ref (q 0)] RES.1 (wM q cI cJ cZ zn zm RES.2.1 zf zr zw zs zfr zto zk zt za zb zq RES.2.2.1 RES.2.2.2.1 zo zu zov ztu zsh zle zmo zc RES.2.2.2.2.1 RES.2.2.2.2.2) := by
  intro sz
  refine ct_entry (cc := cX8_needs) (maxL := 4) (ret := some .boolean) (own := RX8) (by decide) rfl rfl (Nat.le_of_ble_eq_true rfl) (ll := [(0, .ref (q 0))]) rfl ?_
  intro p e s m args below meth c hsz C0 _ hP hD ls hl
  have C1 := C0
  obtain ⟨hx, hb, hr, hml, hown, hts, hlocks, hN, hK, hA⟩ := C1
  have hS : va_S (va_A (wM q cI cJ cZ zn zm zj zf zr zw zs zfr zto zk zt za zb zq zl zv zo zu zov ztu zsh zle zmo zc zlo zhi) sz) s.heap s.heap [] := va_S.rf
  generalize va_A (wM q cI cJ cZ zn zm zj zf zr zw zs zfr zto zk zt za zb zq zl zv zo zu zov ztu zsh zle zmo zc zlo zhi) sz = A at C0 hD hA hS ⊢
  show W p l e rmX8_needs s m args below meth c s.heap [] 0 0 (QI below args s A (dC, dI) (ty3 cI cJ cZ) RES.1 (wM q cI cJ cZ zn zm RES.2.1 zf zr zw zs zfr zto zk zt za zb zq RES.2.2.1 RES.2.2.2.1 zo zu zov ztu zsh zle zmo zc RES.2.2.2.2.1 RES.2.2.2.2.2)) (F0 m 0 ls [])
  unfold mX8_needs at hres
  refine lv_aload_n hx hb dX8_needs_0 rfl (lv_at hl 0 rfl) ?_
  obtain ⟨u1, hu1, hres⟩ := mi_b hres
  refine call_V C0 (run_V C0 (rest := []) (kX8_lays l dC dI q cI cJ cZ zn zm zj zf zr zw zs zfr zto zk zt za zb zq zl zv zo zu zov ztu zsh zle zmo zc zlo zhi   u1 hu1 _) (cwV 0 hts gX8_needs_X8_lays rfl rfl rfl (by decide +kernel) ⟨by decide, by decide⟩) hP hD (ci := 8) (q0 := 0) rfl rfl rfl hl.1 rfl (Nat.le_of_ble_eq_true rfl) dX8_needs_1) hD hS (fun H locs hP hD hS => ?_)
  refine lv_iconst (v := (0 : Int32)) hx hb dX8_needs_4 (by decide) ?_
  refine lv_istore_n (lv' := [(1, .int (0 : Int32)), (0, .ref (q 0))]) hx hb dX8_needs_5 rfl hl (by decide) rfl (fun ls hl => ?_)
  exact zX8_needs_L6 C0  FU u1.1 u1.2 zv zlo zhi (0 : Int32) _ _ ls hP hD hS (lv_sub hl [1, 0] rfl) hres
