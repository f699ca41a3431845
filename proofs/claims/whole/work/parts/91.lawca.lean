set_option maxHeartbeats 8000000 in
set_option maxRecDepth 100000 in
theorem lc_0 {p : Program} {l : Launch} {e : Env} {s : State} {m : MethodId} {b : Nat} {below : List Frame} {meth : Method} {c : Code} {A : Nat → Prop} {dC : Nat → ClassId} {dI : Nat → Nat → Nat} {q z : Nat → Nat} {cI cJ cZ : ClassId} {L : Nat} {xs : Nat → Int32} {x3 : Int32} (C : LawC p s m b meth c A (dC, dI) cI cJ cZ L xs) (h_1 : vp_in (x3 + (1 : Int32)) L) (h_2 : vp_in (x3 + (2 : Int32)) L) (h_3 : vp_in (x3 + (3 : Int32)) L) (h_4 : vp_in (x3 + (4 : Int32)) L) (K : LawK p l e s m b below meth c A (dC, dI) q z cI cJ cZ x3 656) : LawK p l e s m b below meth c A (dC, dI) q z cI cJ cZ x3 120 := by
  obtain ⟨C0, hX, hbl, hbA⟩ := C
  have C1 := C0
  obtain ⟨hx, hb, hr, hml, hown, hts, hlocks, hN, hK, hA⟩ := C1
  intro nr wd sg lw hg fr to sn pl kd tg sa sb bn mt pa ob tb fo rv ro tk ov sh tu rk cb rlo rhi rl rg tf kn tl th tv zn zm zj zf zr zw zs zfr zto zk zt za zb zq zl zv zo zu zov ztu zsh zle zmo zc zlo zhi hI H locs ls hP hD hS hl
  refine lv_aload_n hx hb dL_law_120 rfl (lv_at hl 2 rfl) ?_
  refine lv_aload_n hx hb dL_law_121 rfl (lv_at hl 1 rfl) ?_
  refine lv_iload_n hx hb dL_law_122 rfl (lv_at hl 0 rfl) ?_
  refine lv_iconst (v := (1 : Int32)) hx hb dL_law_123 (by decide) ?_
  refine lv_iadd hx hb dL_law_124 ?_
  refine va_sld hx hb hX hbl hbA hS h_1 dL_law_125 ?_
  refine lv_aload_n hx hb dL_law_126 rfl (lv_at hl 1 rfl) ?_
  refine lv_iload_n hx hb dL_law_127 rfl (lv_at hl 0 rfl) ?_
  refine lv_iconst (v := (2 : Int32)) hx hb dL_law_128 (by decide) ?_
  refine lv_iadd hx hb dL_law_129 ?_
  refine va_sld hx hb hX hbl hbA hS h_2 dL_law_130 ?_
  refine lv_aload_n hx hb dL_law_131 rfl (lv_at hl 1 rfl) ?_
  refine lv_iload_n hx hb dL_law_132 rfl (lv_at hl 0 rfl) ?_
  refine lv_iconst (v := (3 : Int32)) hx hb dL_law_133 (by decide) ?_
  refine lv_iadd hx hb dL_law_134 ?_
  refine va_sld hx hb hX hbl hbA hS h_3 dL_law_135 ?_
  refine lv_if_eq (tgt := 143) hx hb dL_law_136 (by decide) (fun c_136 => ?_) (fun c_136 => ?_)
  · refine lv_iconst (v := (0 : Int32)) hx hb dL_law_143 (by decide) ?_
    obtain ⟨r, wd', sg', lw', hg', tk', rk', kn', zw', zs', e1, e2, hI2⟩ := p_name hI (xs (Int32.toNatClampNeg (x3 + (1 : Int32)))) (xs (Int32.toNatClampNeg (x3 + (2 : Int32)))) (0 : Int32) (Or.inl rfl)
    refine call_IW (r := r) C0 (run_VW C0 (rest := []) (kX7_name l dC dI q cI cJ cZ nr wd sg lw hg fr to sn pl kd tg sa sb bn mt pa ob tb fo rv ro tk ov sh tu rk cb rlo rhi rl rg tf kn tl th tv (xs (Int32.toNatClampNeg (x3 + (1 : Int32)))) (xs (Int32.toNatClampNeg (x3 + (2 : Int32)))) (0 : Int32) _ e1 _) (cwV 3 hts lg_X7_name rfl rfl rfl (by decide +kernel) ⟨by decide, by decide⟩) (sp_P1 hP) (sp_D1 hD) (ci := 7) (q0 := 0) rfl rfl rfl hl.1 rfl (Nat.le_of_ble_eq_true rfl) dL_law_144 ⟨by decide, by decide⟩) hP hD hS (fun H locs hP hD hS => ?_)
    have hP : va_P (dC, dI) vwCl ((wM z cI cJ cZ zn zm zj zf zr zw zs zfr zto zk zt za zb zq zl zv zo zu zov ztu zsh zle zmo zc zlo zhi) ++ (wC q cI cJ cZ nr wd' sg' lw' hg' fr to sn pl kd tg sa sb bn mt pa ob tb fo rv ro tk' ov sh tu rk' cb rlo rhi rl rg tf kn' tl th tv)) H := hP
    have hD : va_D A ((wM z cI cJ cZ zn zm zj zf zr zw zs zfr zto zk zt za zb zq zl zv zo zu zov ztu zsh zle zmo zc zlo zhi) ++ (wC q cI cJ cZ nr wd' sg' lw' hg' fr to sn pl kd tg sa sb bn mt pa ob tb fo rv ro tk' ov sh tu rk' cb rlo rhi rl rg tf kn' tl th tv)) := hD
    refine lv_aload_n hx hb dL_law_147 rfl (lv_at hl 3 rfl) ?_
    refine lv_aload_n hx hb dL_law_148 rfl (lv_at hl 1 rfl) ?_
    refine lv_iload_n hx hb dL_law_149 rfl (lv_at hl 0 rfl) ?_
    refine lv_iconst (v := (1 : Int32)) hx hb dL_law_150 (by decide) ?_
    refine lv_iadd hx hb dL_law_151 ?_
    refine va_sld hx hb hX hbl hbA hS h_1 dL_law_152 ?_
    refine lv_aload_n hx hb dL_law_153 rfl (lv_at hl 1 rfl) ?_
    refine lv_iload_n hx hb dL_law_154 rfl (lv_at hl 0 rfl) ?_
    refine lv_iconst (v := (2 : Int32)) hx hb dL_law_155 (by decide) ?_
    refine lv_iadd hx hb dL_law_156 ?_
    refine va_sld hx hb hX hbl hbA hS h_2 dL_law_157 ?_
    refine lv_aload_n hx hb dL_law_158 rfl (lv_at hl 1 rfl) ?_
    refine lv_iload_n hx hb dL_law_159 rfl (lv_at hl 0 rfl) ?_
    refine lv_iconst (v := (3 : Int32)) hx hb dL_law_160 (by decide) ?_
    refine lv_iadd hx hb dL_law_161 ?_
    refine va_sld hx hb hX hbl hbA hS h_3 dL_law_162 ?_
    refine lv_if_eq (tgt := 170) hx hb dL_law_163 (by decide) (fun _ => ?_) (fun c9 => absurd c_136 c9)
    refine lv_iconst (v := (0 : Int32)) hx hb dL_law_170 (by decide) ?_
    refine call_IW (r := r) C0 (run_VW C0 (rest := [.int r]) (kX8_name l dC dI z cI cJ cZ zn zm zj zf zr zw zs zfr zto zk zt za zb zq zl zv zo zu zov ztu zsh zle zmo zc zlo zhi (xs (Int32.toNatClampNeg (x3 + (1 : Int32)))) (xs (Int32.toNatClampNeg (x3 + (2 : Int32)))) (0 : Int32) _ e2 _) (cwV 3 hts lg_X8_name rfl rfl rfl (by decide +kernel) ⟨by decide, by decide⟩) (sp_P1 hP) (sp_D1 hD) (ci := 8) (q0 := 0) rfl rfl rfl hl.1 rfl (Nat.le_of_ble_eq_true rfl) dL_law_171 ⟨by decide, by decide⟩) hP hD hS (fun H locs hP hD hS => ?_)
    have hP : va_P (dC, dI) vwCl ((wC q cI cJ cZ nr wd' sg' lw' hg' fr to sn pl kd tg sa sb bn mt pa ob tb fo rv ro tk' ov sh tu rk' cb rlo rhi rl rg tf kn' tl th tv) ++ (wM z cI cJ cZ zn zm zj zf zr zw' zs' zfr zto zk zt za zb zq zl zv zo zu zov ztu zsh zle zmo zc zlo zhi)) H := hP
    have hD : va_D A ((wC q cI cJ cZ nr wd' sg' lw' hg' fr to sn pl kd tg sa sb bn mt pa ob tb fo rv ro tk' ov sh tu rk' cb rlo rhi rl rg tf kn' tl th tv) ++ (wM z cI cJ cZ zn zm zj zf zr zw' zs' zfr zto zk zt za zb zq zl zv zo zu zov ztu zsh zle zmo zc zlo zhi)) := hD
    refine lv_icmp_eq (tgt := 656) hx hb dL_law_174 (by decide) (fun _ => ?_) (fun c9 => absurd rfl c9)
    exact K nr wd' sg' lw' hg' fr to sn pl kd tg sa sb bn mt pa ob tb fo rv ro tk' ov sh tu rk' cb rlo rhi rl rg tf kn' tl th tv zn zm zj zf zr zw' zs' zfr zto zk zt za zb zq zl zv zo zu zov ztu zsh zle zmo zc zlo zhi hI2 _ _ _ hP hD hS hl
  · refine lv_iconst (v := (1 : Int32)) hx hb dL_law_139 (by decide) ?_
    refine lv_goto (tgt := 144) hx hb dL_law_140 (by decide) ?_
    obtain ⟨r, wd', sg', lw', hg', tk', rk', kn', zw', zs', e1, e2, hI2⟩ := p_name hI (xs (Int32.toNatClampNeg (x3 + (1 : Int32)))) (xs (Int32.toNatClampNeg (x3 + (2 : Int32)))) (1 : Int32) (Or.inr rfl)
    refine call_IW (r := r) C0 (run_VW C0 (rest := []) (kX7_name l dC dI q cI cJ cZ nr wd sg lw hg fr to sn pl kd tg sa sb bn mt pa ob tb fo rv ro tk ov sh tu rk cb rlo rhi rl rg tf kn tl th tv (xs (Int32.toNatClampNeg (x3 + (1 : Int32)))) (xs (Int32.toNatClampNeg (x3 + (2 : Int32)))) (1 : Int32) _ e1 _) (cwV 3 hts lg_X7_name rfl rfl rfl (by decide +kernel) ⟨by decide, by decide⟩) (sp_P1 hP) (sp_D1 hD) (ci := 7) (q0 := 0) rfl rfl rfl hl.1 rfl (Nat.le_of_ble_eq_true rfl) dL_law_144 ⟨by decide, by decide⟩) hP hD hS (fun H locs hP hD hS => ?_)
    have hP : va_P (dC, dI) vwCl ((wM z cI cJ cZ zn zm zj zf zr zw zs zfr zto zk zt za zb zq zl zv zo zu zov ztu zsh zle zmo zc zlo zhi) ++ (wC q cI cJ cZ nr wd' sg' lw' hg' fr to sn pl kd tg sa sb bn mt pa ob tb fo rv ro tk' ov sh tu rk' cb rlo rhi rl rg tf kn' tl th tv)) H := hP
    have hD : va_D A ((wM z cI cJ cZ zn zm zj zf zr zw zs zfr zto zk zt za zb zq zl zv zo zu zov ztu zsh zle zmo zc zlo zhi) ++ (wC q cI cJ cZ nr wd' sg' lw' hg' fr to sn pl kd tg sa sb bn mt pa ob tb fo rv ro tk' ov sh tu rk' cb rlo rhi rl rg tf kn' tl th tv)) := hD
    refine lv_aload_n hx hb dL_law_147 rfl (lv_at hl 3 rfl) ?_
    refine lv_aload_n hx hb dL_law_148 rfl (lv_at hl 1 rfl) ?_
    refine lv_iload_n hx hb dL_law_149 rfl (lv_at hl 0 rfl) ?_
    refine lv_iconst (v := (1 : Int32)) hx hb dL_law_150 (by decide) ?_
    refine lv_iadd hx hb dL_law_151 ?_
    refine va_sld hx hb hX hbl hbA hS h_1 dL_law_152 ?_
    refine lv_aload_n hx hb dL_law_153 rfl (lv_at hl 1 rfl) ?_
    refine lv_iload_n hx hb dL_law_154 rfl (lv_at hl 0 rfl) ?_
    refine lv_iconst (v := (2 : Int32)) hx hb dL_law_155 (by decide) ?_
    refine lv_iadd hx hb dL_law_156 ?_
    refine va_sld hx hb hX hbl hbA hS h_2 dL_law_157 ?_
    refine lv_aload_n hx hb dL_law_158 rfl (lv_at hl 1 rfl) ?_
    refine lv_iload_n hx hb dL_law_159 rfl (lv_at hl 0 rfl) ?_
    refine lv_iconst (v := (3 : Int32)) hx hb dL_law_160 (by decide) ?_
    refine lv_iadd hx hb dL_law_161 ?_
    refine va_sld hx hb hX hbl hbA hS h_3 dL_law_162 ?_
    refine lv_if_eq (tgt := 170) hx hb dL_law_163 (by decide) (fun c9 => absurd c9 c_136) (fun _ => ?_)
    refine lv_iconst (v := (1 : Int32)) hx hb dL_law_166 (by decide) ?_
    refine lv_goto (tgt := 171) hx hb dL_law_167 (by decide) ?_
    refine call_IW (r := r) C0 (run_VW C0 (rest := [.int r]) (kX8_name l dC dI z cI cJ cZ zn zm zj zf zr zw zs zfr zto zk zt za zb zq zl zv zo zu zov ztu zsh zle zmo zc zlo zhi (xs (Int32.toNatClampNeg (x3 + (1 : Int32)))) (xs (Int32.toNatClampNeg (x3 + (2 : Int32)))) (1 : Int32) _ e2 _) (cwV 3 hts lg_X8_name rfl rfl rfl (by decide +kernel) ⟨by decide, by decide⟩) (sp_P1 hP) (sp_D1 hD) (ci := 8) (q0 := 0) rfl rfl rfl hl.1 rfl (Nat.le_of_ble_eq_true rfl) dL_law_171 ⟨by decide, by decide⟩) hP hD hS (fun H locs hP hD hS => ?_)
    have hP : va_P (dC, dI) vwCl ((wC q cI cJ cZ nr wd' sg' lw' hg' fr to sn pl kd tg sa sb bn mt pa ob tb fo rv ro tk' ov sh tu rk' cb rlo rhi rl rg tf kn' tl th tv) ++ (wM z cI cJ cZ zn zm zj zf zr zw' zs' zfr zto zk zt za zb zq zl zv zo zu zov ztu zsh zle zmo zc zlo zhi)) H := hP
    have hD : va_D A ((wC q cI cJ cZ nr wd' sg' lw' hg' fr to sn pl kd tg sa sb bn mt pa ob tb fo rv ro tk' ov sh tu rk' cb rlo rhi rl rg tf kn' tl th tv) ++ (wM z cI cJ cZ zn zm zj zf zr zw' zs' zfr zto zk zt za zb zq zl zv zo zu zov ztu zsh zle zmo zc zlo zhi)) := hD
    refine lv_icmp_eq (tgt := 656) hx hb dL_law_174 (by decide) (fun _ => ?_) (fun c9 => absurd rfl c9)
    exact K nr wd' sg' lw' hg' fr to sn pl kd tg sa sb bn mt pa ob tb fo rv ro tk' ov sh tu rk' cb rlo rhi rl rg tf kn' tl th tv zn zm zj zf zr zw' zs' zfr zto zk zt za zb zq zl zv zo zu zov ztu zsh zle zmo zc zlo zhi hI2 _ _ _ hP hD hS hl
set_option maxHeartbeats 8000000 in
set_option maxRecDepth 100000 in
theorem lc_1 {p : Program} {l : Launch} {e : Env} {s : State} {m : MethodId} {b : Nat} {below : List Frame} {meth : Method} {c : Code} {A : Nat → Prop} {dC : Nat → ClassId} {dI : Nat → Nat → Nat} {q z : Nat → Nat} {cI cJ cZ : ClassId} {L : Nat} {xs : Nat → Int32} {x3 : Int32} (C : LawC p s m b meth c A (dC, dI) cI cJ cZ L xs) (h_1 : vp_in (x3 + (1 : Int32)) L) (h_2 : vp_in (x3 + (2 : Int32)) L) (h_3 : vp_in (x3 + (3 : Int32)) L) (h_4 : vp_in (x3 + (4 : Int32)) L) (K : LawK p l e s m b below meth c A (dC, dI) q z cI cJ cZ x3 656) : LawK p l e s m b below meth c A (dC, dI) q z cI cJ cZ x3 179 := by
  obtain ⟨C0, hX, hbl, hbA⟩ := C
  have C1 := C0
  obtain ⟨hx, hb, hr, hml, hown, hts, hlocks, hN, hK, hA⟩ := C1
  intro nr wd sg lw hg fr to sn pl kd tg sa sb bn mt pa ob tb fo rv ro tk ov sh tu rk cb rlo rhi rl rg tf kn tl th tv zn zm zj zf zr zw zs zfr zto zk zt za zb zq zl zv zo zu zov ztu zsh zle zmo zc zlo zhi hI H locs ls hP hD hS hl
  refine lv_aload_n hx hb dL_law_179 rfl (lv_at hl 2 rfl) ?_
  refine lv_aload_n hx hb dL_law_180 rfl (lv_at hl 1 rfl) ?_
  refine lv_iload_n hx hb dL_law_181 rfl (lv_at hl 0 rfl) ?_
  refine lv_iconst (v := (1 : Int32)) hx hb dL_law_182 (by decide) ?_
  refine lv_iadd hx hb dL_law_183 ?_
  refine va_sld hx hb hX hbl hbA hS h_1 dL_law_184 ?_
  refine lv_aload_n hx hb dL_law_185 rfl (lv_at hl 1 rfl) ?_
  refine lv_iload_n hx hb dL_law_186 rfl (lv_at hl 0 rfl) ?_
  refine lv_iconst (v := (2 : Int32)) hx hb dL_law_187 (by decide) ?_
  refine lv_iadd hx hb dL_law_188 ?_
  refine va_sld hx hb hX hbl hbA hS h_2 dL_law_189 ?_
  refine lv_aload_n hx hb dL_law_190 rfl (lv_at hl 1 rfl) ?_
  refine lv_iload_n hx hb dL_law_191 rfl (lv_at hl 0 rfl) ?_
  refine lv_iconst (v := (3 : Int32)) hx hb dL_law_192 (by decide) ?_
  refine lv_iadd hx hb dL_law_193 ?_
  refine va_sld hx hb hX hbl hbA hS h_3 dL_law_194 ?_
  obtain ⟨r, fr', to', tk', rk', kn', zfr', zto', e1, e2, hI2⟩ := p_span hI (xs (Int32.toNatClampNeg (x3 + (1 : Int32)))) (xs (Int32.toNatClampNeg (x3 + (2 : Int32)))) (xs (Int32.toNatClampNeg (x3 + (3 : Int32))))
  refine call_IW (r := r) C0 (run_VW C0 (rest := []) (kX7_span l dC dI q cI cJ cZ nr wd sg lw hg fr to sn pl kd tg sa sb bn mt pa ob tb fo rv ro tk ov sh tu rk cb rlo rhi rl rg tf kn tl th tv (xs (Int32.toNatClampNeg (x3 + (1 : Int32)))) (xs (Int32.toNatClampNeg (x3 + (2 : Int32)))) (xs (Int32.toNatClampNeg (x3 + (3 : Int32)))) _ e1 _) (cwV 3 hts lg_X7_span rfl rfl rfl (by decide +kernel) ⟨by decide, by decide⟩) (sp_P1 hP) (sp_D1 hD) (ci := 7) (q0 := 0) rfl rfl rfl hl.1 rfl (Nat.le_of_ble_eq_true rfl) dL_law_195 ⟨by decide, by decide⟩) hP hD hS (fun H locs hP hD hS => ?_)
  have hP : va_P (dC, dI) vwCl ((wM z cI cJ cZ zn zm zj zf zr zw zs zfr zto zk zt za zb zq zl zv zo zu zov ztu zsh zle zmo zc zlo zhi) ++ (wC q cI cJ cZ nr wd sg lw hg fr' to' sn pl kd tg sa sb bn mt pa ob tb fo rv ro tk' ov sh tu rk' cb rlo rhi rl rg tf kn' tl th tv)) H := hP
  have hD : va_D A ((wM z cI cJ cZ zn zm zj zf zr zw zs zfr zto zk zt za zb zq zl zv zo zu zov ztu zsh zle zmo zc zlo zhi) ++ (wC q cI cJ cZ nr wd sg lw hg fr' to' sn pl kd tg sa sb bn mt pa ob tb fo rv ro tk' ov sh tu rk' cb rlo rhi rl rg tf kn' tl th tv)) := hD
  refine lv_aload_n hx hb dL_law_198 rfl (lv_at hl 3 rfl) ?_
  refine lv_aload_n hx hb dL_law_199 rfl (lv_at hl 1 rfl) ?_
  refine lv_iload_n hx hb dL_law_200 rfl (lv_at hl 0 rfl) ?_
  refine lv_iconst (v := (1 : Int32)) hx hb dL_law_201 (by decide) ?_
  refine lv_iadd hx hb dL_law_202 ?_
  refine va_sld hx hb hX hbl hbA hS h_1 dL_law_203 ?_
  refine lv_aload_n hx hb dL_law_204 rfl (lv_at hl 1 rfl) ?_
  refine lv_iload_n hx hb dL_law_205 rfl (lv_at hl 0 rfl) ?_
  refine lv_iconst (v := (2 : Int32)) hx hb dL_law_206 (by decide) ?_
  refine lv_iadd hx hb dL_law_207 ?_
  refine va_sld hx hb hX hbl hbA hS h_2 dL_law_208 ?_
  refine lv_aload_n hx hb dL_law_209 rfl (lv_at hl 1 rfl) ?_
  refine lv_iload_n hx hb dL_law_210 rfl (lv_at hl 0 rfl) ?_
  refine lv_iconst (v := (3 : Int32)) hx hb dL_law_211 (by decide) ?_
  refine lv_iadd hx hb dL_law_212 ?_
  refine va_sld hx hb hX hbl hbA hS h_3 dL_law_213 ?_
  refine call_IW (r := r) C0 (run_VW C0 (rest := [.int r]) (kX8_span l dC dI z cI cJ cZ zn zm zj zf zr zw zs zfr zto zk zt za zb zq zl zv zo zu zov ztu zsh zle zmo zc zlo zhi (xs (Int32.toNatClampNeg (x3 + (1 : Int32)))) (xs (Int32.toNatClampNeg (x3 + (2 : Int32)))) (xs (Int32.toNatClampNeg (x3 + (3 : Int32)))) _ e2 _) (cwV 3 hts lg_X8_span rfl rfl rfl (by decide +kernel) ⟨by decide, by decide⟩) (sp_P1 hP) (sp_D1 hD) (ci := 8) (q0 := 0) rfl rfl rfl hl.1 rfl (Nat.le_of_ble_eq_true rfl) dL_law_214 ⟨by decide, by decide⟩) hP hD hS (fun H locs hP hD hS => ?_)
  have hP : va_P (dC, dI) vwCl ((wC q cI cJ cZ nr wd sg lw hg fr' to' sn pl kd tg sa sb bn mt pa ob tb fo rv ro tk' ov sh tu rk' cb rlo rhi rl rg tf kn' tl th tv) ++ (wM z cI cJ cZ zn zm zj zf zr zw zs zfr' zto' zk zt za zb zq zl zv zo zu zov ztu zsh zle zmo zc zlo zhi)) H := hP
  have hD : va_D A ((wC q cI cJ cZ nr wd sg lw hg fr' to' sn pl kd tg sa sb bn mt pa ob tb fo rv ro tk' ov sh tu rk' cb rlo rhi rl rg tf kn' tl th tv) ++ (wM z cI cJ cZ zn zm zj zf zr zw zs zfr' zto' zk zt za zb zq zl zv zo zu zov ztu zsh zle zmo zc zlo zhi)) := hD
  refine lv_icmp_eq (tgt := 656) hx hb dL_law_217 (by decide) (fun _ => ?_) (fun c9 => absurd rfl c9)
  exact K nr wd sg lw hg fr' to' sn pl kd tg sa sb bn mt pa ob tb fo rv ro tk' ov sh tu rk' cb rlo rhi rl rg tf kn' tl th tv zn zm zj zf zr zw zs zfr' zto' zk zt za zb zq zl zv zo zu zov ztu zsh zle zmo zc zlo zhi hI2 _ _ _ hP hD hS hl
set_option maxHeartbeats 8000000 in
set_option maxRecDepth 100000 in
theorem lc_2 {p : Program} {l : Launch} {e : Env} {s : State} {m : MethodId} {b : Nat} {below : List Frame} {meth : Method} {c : Code} {A : Nat → Prop} {dC : Nat → ClassId} {dI : Nat → Nat → Nat} {q z : Nat → Nat} {cI cJ cZ : ClassId} {L : Nat} {xs : Nat → Int32} {x3 : Int32} (C : LawC p s m b meth c A (dC, dI) cI cJ cZ L xs) (h_1 : vp_in (x3 + (1 : Int32)) L) (h_2 : vp_in (x3 + (2 : Int32)) L) (h_3 : vp_in (x3 + (3 : Int32)) L) (h_4 : vp_in (x3 + (4 : Int32)) L) (K : LawK p l e s m b below meth c A (dC, dI) q z cI cJ cZ x3 656) : LawK p l e s m b below meth c A (dC, dI) q z cI cJ cZ x3 222 := by
  obtain ⟨C0, hX, hbl, hbA⟩ := C
  have C1 := C0
  obtain ⟨hx, hb, hr, hml, hown, hts, hlocks, hN, hK, hA⟩ := C1
  intro nr wd sg lw hg fr to sn pl kd tg sa sb bn mt pa ob tb fo rv ro tk ov sh tu rk cb rlo rhi rl rg tf kn tl th tv zn zm zj zf zr zw zs zfr zto zk zt za zb zq zl zv zo zu zov ztu zsh zle zmo zc zlo zhi hI H locs ls hP hD hS hl
  refine lv_aload_n hx hb dL_law_222 rfl (lv_at hl 2 rfl) ?_
  refine lv_aload_n hx hb dL_law_223 rfl (lv_at hl 1 rfl) ?_
  refine lv_iload_n hx hb dL_law_224 rfl (lv_at hl 0 rfl) ?_
  refine lv_iconst (v := (1 : Int32)) hx hb dL_law_225 (by decide) ?_
  refine lv_iadd hx hb dL_law_226 ?_
  refine va_sld hx hb hX hbl hbA hS h_1 dL_law_227 ?_
  refine lv_aload_n hx hb dL_law_228 rfl (lv_at hl 1 rfl) ?_
  refine lv_iload_n hx hb dL_law_229 rfl (lv_at hl 0 rfl) ?_
  refine lv_iconst (v := (2 : Int32)) hx hb dL_law_230 (by decide) ?_
  refine lv_iadd hx hb dL_law_231 ?_
  refine va_sld hx hb hX hbl hbA hS h_2 dL_law_232 ?_
  refine lv_aload_n hx hb dL_law_233 rfl (lv_at hl 1 rfl) ?_
  refine lv_iload_n hx hb dL_law_234 rfl (lv_at hl 0 rfl) ?_
  refine lv_iconst (v := (3 : Int32)) hx hb dL_law_235 (by decide) ?_
  refine lv_iadd hx hb dL_law_236 ?_
  refine va_sld hx hb hX hbl hbA hS h_3 dL_law_237 ?_
  refine lv_aload_n hx hb dL_law_238 rfl (lv_at hl 1 rfl) ?_
  refine lv_iload_n hx hb dL_law_239 rfl (lv_at hl 0 rfl) ?_
  refine lv_iconst (v := (4 : Int32)) hx hb dL_law_240 (by decide) ?_
  refine lv_iadd hx hb dL_law_241 ?_
  refine va_sld hx hb hX hbl hbA hS h_4 dL_law_242 ?_
  obtain ⟨r, sn', pl', kd', tg', sa', sb', bn', pa', tk', rk', kn', zn', zk', zt', za', zb', zq', e1, e2, hI2⟩ := p_step hI (xs (Int32.toNatClampNeg (x3 + (1 : Int32)))) (xs (Int32.toNatClampNeg (x3 + (2 : Int32)))) (xs (Int32.toNatClampNeg (x3 + (3 : Int32)))) (xs (Int32.toNatClampNeg (x3 + (4 : Int32))))
  refine call_IW (r := r) C0 (run_VW C0 (rest := []) (kX7_step l dC dI q cI cJ cZ nr wd sg lw hg fr to sn pl kd tg sa sb bn mt pa ob tb fo rv ro tk ov sh tu rk cb rlo rhi rl rg tf kn tl th tv (xs (Int32.toNatClampNeg (x3 + (1 : Int32)))) (xs (Int32.toNatClampNeg (x3 + (2 : Int32)))) (xs (Int32.toNatClampNeg (x3 + (3 : Int32)))) (xs (Int32.toNatClampNeg (x3 + (4 : Int32)))) _ e1 _) (cwV 4 hts lg_X7_step rfl rfl rfl (by decide +kernel) ⟨by decide, by decide⟩) (sp_P1 hP) (sp_D1 hD) (ci := 7) (q0 := 0) rfl rfl rfl hl.1 rfl (Nat.le_of_ble_eq_true rfl) dL_law_243 ⟨by decide, by decide⟩) hP hD hS (fun H locs hP hD hS => ?_)
  have hP : va_P (dC, dI) vwCl ((wM z cI cJ cZ zn zm zj zf zr zw zs zfr zto zk zt za zb zq zl zv zo zu zov ztu zsh zle zmo zc zlo zhi) ++ (wC q cI cJ cZ nr wd sg lw hg fr to sn' pl' kd' tg' sa' sb' bn' mt pa' ob tb fo rv ro tk' ov sh tu rk' cb rlo rhi rl rg tf kn' tl th tv)) H := hP
  have hD : va_D A ((wM z cI cJ cZ zn zm zj zf zr zw zs zfr zto zk zt za zb zq zl zv zo zu zov ztu zsh zle zmo zc zlo zhi) ++ (wC q cI cJ cZ nr wd sg lw hg fr to sn' pl' kd' tg' sa' sb' bn' mt pa' ob tb fo rv ro tk' ov sh tu rk' cb rlo rhi rl rg tf kn' tl th tv)) := hD
  refine lv_aload_n hx hb dL_law_246 rfl (lv_at hl 3 rfl) ?_
  refine lv_aload_n hx hb dL_law_247 rfl (lv_at hl 1 rfl) ?_
  refine lv_iload_n hx hb dL_law_248 rfl (lv_at hl 0 rfl) ?_
  refine lv_iconst (v := (1 : Int32)) hx hb dL_law_249 (by decide) ?_
  refine lv_iadd hx hb dL_law_250 ?_
  refine va_sld hx hb hX hbl hbA hS h_1 dL_law_251 ?_
  refine lv_aload_n hx hb dL_law_252 rfl (lv_at hl 1 rfl) ?_
  refine lv_iload_n hx hb dL_law_253 rfl (lv_at hl 0 rfl) ?_
  refine lv_iconst (v := (2 : Int32)) hx hb dL_law_254 (by decide) ?_
  refine lv_iadd hx hb dL_law_255 ?_
  refine va_sld hx hb hX hbl hbA hS h_2 dL_law_256 ?_
  refine lv_aload_n hx hb dL_law_257 rfl (lv_at hl 1 rfl) ?_
  refine lv_iload_n hx hb dL_law_258 rfl (lv_at hl 0 rfl) ?_
  refine lv_iconst (v := (3 : Int32)) hx hb dL_law_259 (by decide) ?_
  refine lv_iadd hx hb dL_law_260 ?_
  refine va_sld hx hb hX hbl hbA hS h_3 dL_law_261 ?_
  refine lv_aload_n hx hb dL_law_262 rfl (lv_at hl 1 rfl) ?_
  refine lv_iload_n hx hb dL_law_263 rfl (lv_at hl 0 rfl) ?_
  refine lv_iconst (v := (4 : Int32)) hx hb dL_law_264 (by decide) ?_
  refine lv_iadd hx hb dL_law_265 ?_
  refine va_sld hx hb hX hbl hbA hS h_4 dL_law_266 ?_
  refine call_IW (r := r) C0 (run_VW C0 (rest := [.int r]) (kX8_step l dC dI z cI cJ cZ zn zm zj zf zr zw zs zfr zto zk zt za zb zq zl zv zo zu zov ztu zsh zle zmo zc zlo zhi (xs (Int32.toNatClampNeg (x3 + (1 : Int32)))) (xs (Int32.toNatClampNeg (x3 + (2 : Int32)))) (xs (Int32.toNatClampNeg (x3 + (3 : Int32)))) (xs (Int32.toNatClampNeg (x3 + (4 : Int32)))) _ e2 _) (cwV 4 hts lg_X8_step rfl rfl rfl (by decide +kernel) ⟨by decide, by decide⟩) (sp_P1 hP) (sp_D1 hD) (ci := 8) (q0 := 0) rfl rfl rfl hl.1 rfl (Nat.le_of_ble_eq_true rfl) dL_law_267 ⟨by decide, by decide⟩) hP hD hS (fun H locs hP hD hS => ?_)
  have hP : va_P (dC, dI) vwCl ((wC q cI cJ cZ nr wd sg lw hg fr to sn' pl' kd' tg' sa' sb' bn' mt pa' ob tb fo rv ro tk' ov sh tu rk' cb rlo rhi rl rg tf kn' tl th tv) ++ (wM z cI cJ cZ zn' zm zj zf zr zw zs zfr zto zk' zt' za' zb' zq' zl zv zo zu zov ztu zsh zle zmo zc zlo zhi)) H := hP
  have hD : va_D A ((wC q cI cJ cZ nr wd sg lw hg fr to sn' pl' kd' tg' sa' sb' bn' mt pa' ob tb fo rv ro tk' ov sh tu rk' cb rlo rhi rl rg tf kn' tl th tv) ++ (wM z cI cJ cZ zn' zm zj zf zr zw zs zfr zto zk' zt' za' zb' zq' zl zv zo zu zov ztu zsh zle zmo zc zlo zhi)) := hD
  refine lv_icmp_eq (tgt := 656) hx hb dL_law_270 (by decide) (fun _ => ?_) (fun c9 => absurd rfl c9)
  exact K nr wd sg lw hg fr to sn' pl' kd' tg' sa' sb' bn' mt pa' ob tb fo rv ro tk' ov sh tu rk' cb rlo rhi rl rg tf kn' tl th tv zn' zm zj zf zr zw zs zfr zto zk' zt' za' zb' zq' zl zv zo zu zov ztu zsh zle zmo zc zlo zhi hI2 _ _ _ hP hD hS hl
set_option maxHeartbeats 8000000 in
set_option maxRecDepth 100000 in
theorem lc_3 {p : Program} {l : Launch} {e : Env} {s : State} {m : MethodId} {b : Nat} {below : List Frame} {meth : Method} {c : Code} {A : Nat → Prop} {dC : Nat → ClassId} {dI : Nat → Nat → Nat} {q z : Nat → Nat} {cI cJ cZ : ClassId} {L : Nat} {xs : Nat → Int32} {x3 : Int32} (C : LawC p s m b meth c A (dC, dI) cI cJ cZ L xs) (h_1 : vp_in (x3 + (1 : Int32)) L) (h_2 : vp_in (x3 + (2 : Int32)) L) (h_3 : vp_in (x3 + (3 : Int32)) L) (h_4 : vp_in (x3 + (4 : Int32)) L) (K : LawK p l e s m b below meth c A (dC, dI) q z cI cJ cZ x3 656) : LawK p l e s m b below meth c A (dC, dI) q z cI cJ cZ x3 275 := by
  obtain ⟨C0, hX, hbl, hbA⟩ := C
  have C1 := C0
  obtain ⟨hx, hb, hr, hml, hown, hts, hlocks, hN, hK, hA⟩ := C1
  intro nr wd sg lw hg fr to sn pl kd tg sa sb bn mt pa ob tb fo rv ro tk ov sh tu rk cb rlo rhi rl rg tf kn tl th tv zn zm zj zf zr zw zs zfr zto zk zt za zb zq zl zv zo zu zov ztu zsh zle zmo zc zlo zhi hI H locs ls hP hD hS hl
  refine lv_aload_n hx hb dL_law_275 rfl (lv_at hl 2 rfl) ?_
  obtain ⟨r, sn', pl', mt', pa', tk', rk', kn', zn', e1, e2, hI2⟩ := p_back hI 
  refine call_IW (r := r) C0 (run_VW C0 (rest := []) (kX7_back l dC dI q cI cJ cZ nr wd sg lw hg fr to sn pl kd tg sa sb bn mt pa ob tb fo rv ro tk ov sh tu rk cb rlo rhi rl rg tf kn tl th tv  _ e1 _) (cwV 0 hts lg_X7_back rfl rfl rfl (by decide +kernel) ⟨by decide, by decide⟩) (sp_P1 hP) (sp_D1 hD) (ci := 7) (q0 := 0) rfl rfl rfl hl.1 rfl (Nat.le_of_ble_eq_true rfl) dL_law_276 ⟨by decide, by decide⟩) hP hD hS (fun H locs hP hD hS => ?_)
  have hP : va_P (dC, dI) vwCl ((wM z cI cJ cZ zn zm zj zf zr zw zs zfr zto zk zt za zb zq zl zv zo zu zov ztu zsh zle zmo zc zlo zhi) ++ (wC q cI cJ cZ nr wd sg lw hg fr to sn' pl' kd tg sa sb bn mt' pa' ob tb fo rv ro tk' ov sh tu rk' cb rlo rhi rl rg tf kn' tl th tv)) H := hP
  have hD : va_D A ((wM z cI cJ cZ zn zm zj zf zr zw zs zfr zto zk zt za zb zq zl zv zo zu zov ztu zsh zle zmo zc zlo zhi) ++ (wC q cI cJ cZ nr wd sg lw hg fr to sn' pl' kd tg sa sb bn mt' pa' ob tb fo rv ro tk' ov sh tu rk' cb rlo rhi rl rg tf kn' tl th tv)) := hD
  refine lv_aload_n hx hb dL_law_279 rfl (lv_at hl 3 rfl) ?_
  refine call_IW (r := r) C0 (run_VW C0 (rest := [.int r]) (kX8_back l dC dI z cI cJ cZ zn zm zj zf zr zw zs zfr zto zk zt za zb zq zl zv zo zu zov ztu zsh zle zmo zc zlo zhi  _ e2 _) (cwV 0 hts lg_X8_back rfl rfl rfl (by decide +kernel) ⟨by decide, by decide⟩) (sp_P1 hP) (sp_D1 hD) (ci := 8) (q0 := 0) rfl rfl rfl hl.1 rfl (Nat.le_of_ble_eq_true rfl) dL_law_280 ⟨by decide, by decide⟩) hP hD hS (fun H locs hP hD hS => ?_)
  have hP : va_P (dC, dI) vwCl ((wC q cI cJ cZ nr wd sg lw hg fr to sn' pl' kd tg sa sb bn mt' pa' ob tb fo rv ro tk' ov sh tu rk' cb rlo rhi rl rg tf kn' tl th tv) ++ (wM z cI cJ cZ zn' zm zj zf zr zw zs zfr zto zk zt za zb zq zl zv zo zu zov ztu zsh zle zmo zc zlo zhi)) H := hP
  have hD : va_D A ((wC q cI cJ cZ nr wd sg lw hg fr to sn' pl' kd tg sa sb bn mt' pa' ob tb fo rv ro tk' ov sh tu rk' cb rlo rhi rl rg tf kn' tl th tv) ++ (wM z cI cJ cZ zn' zm zj zf zr zw zs zfr zto zk zt za zb zq zl zv zo zu zov ztu zsh zle zmo zc zlo zhi)) := hD
  refine lv_icmp_eq (tgt := 656) hx hb dL_law_283 (by decide) (fun _ => ?_) (fun c9 => absurd rfl c9)
  exact K nr wd sg lw hg fr to sn' pl' kd tg sa sb bn mt' pa' ob tb fo rv ro tk' ov sh tu rk' cb rlo rhi rl rg tf kn' tl th tv zn' zm zj zf zr zw zs zfr zto zk zt za zb zq zl zv zo zu zov ztu zsh zle zmo zc zlo zhi hI2 _ _ _ hP hD hS hl
set_option maxHeartbeats 8000000 in
set_option maxRecDepth 100000 in
theorem lc_4 {p : Program} {l : Launch} {e : Env} {s : State} {m : MethodId} {b : Nat} {below : List Frame} {meth : Method} {c : Code} {A : Nat → Prop} {dC : Nat → ClassId} {dI : Nat → Nat → Nat} {q z : Nat → Nat} {cI cJ cZ : ClassId} {L : Nat} {xs : Nat → Int32} {x3 : Int32} (C : LawC p s m b meth c A (dC, dI) cI cJ cZ L xs) (h_1 : vp_in (x3 + (1 : Int32)) L) (h_2 : vp_in (x3 + (2 : Int32)) L) (h_3 : vp_in (x3 + (3 : Int32)) L) (h_4 : vp_in (x3 + (4 : Int32)) L) (K : LawK p l e s m b below meth c A (dC, dI) q z cI cJ cZ x3 656) : LawK p l e s m b below meth c A (dC, dI) q z cI cJ cZ x3 288 := by
  obtain ⟨C0, hX, hbl, hbA⟩ := C
  have C1 := C0
  obtain ⟨hx, hb, hr, hml, hown, hts, hlocks, hN, hK, hA⟩ := C1
  intro nr wd sg lw hg fr to sn pl kd tg sa sb bn mt pa ob tb fo rv ro tk ov sh tu rk cb rlo rhi rl rg tf kn tl th tv zn zm zj zf zr zw zs zfr zto zk zt za zb zq zl zv zo zu zov ztu zsh zle zmo zc zlo zhi hI H locs ls hP hD hS hl
  refine lv_aload_n hx hb dL_law_288 rfl (lv_at hl 2 rfl) ?_
  refine lv_aload_n hx hb dL_law_289 rfl (lv_at hl 1 rfl) ?_
  refine lv_iload_n hx hb dL_law_290 rfl (lv_at hl 0 rfl) ?_
  refine lv_iconst (v := (1 : Int32)) hx hb dL_law_291 (by decide) ?_
  refine lv_iadd hx hb dL_law_292 ?_
  refine va_sld hx hb hX hbl hbA hS h_1 dL_law_293 ?_
  obtain ⟨r, nr', tk', rk', kn', zm', e1, e2, hI2⟩ := p_mode hI (xs (Int32.toNatClampNeg (x3 + (1 : Int32))))
  refine call_IW (r := r) C0 (run_VW C0 (rest := []) (kX7_mode l dC dI q cI cJ cZ nr wd sg lw hg fr to sn pl kd tg sa sb bn mt pa ob tb fo rv ro tk ov sh tu rk cb rlo rhi rl rg tf kn tl th tv (xs (Int32.toNatClampNeg (x3 + (1 : Int32)))) _ e1 _) (cwV 1 hts lg_X7_mode rfl rfl rfl (by decide +kernel) ⟨by decide, by decide⟩) (sp_P1 hP) (sp_D1 hD) (ci := 7) (q0 := 0) rfl rfl rfl hl.1 rfl (Nat.le_of_ble_eq_true rfl) dL_law_294 ⟨by decide, by decide⟩) hP hD hS (fun H locs hP hD hS => ?_)
  have hP : va_P (dC, dI) vwCl ((wM z cI cJ cZ zn zm zj zf zr zw zs zfr zto zk zt za zb zq zl zv zo zu zov ztu zsh zle zmo zc zlo zhi) ++ (wC q cI cJ cZ nr' wd sg lw hg fr to sn pl kd tg sa sb bn mt pa ob tb fo rv ro tk' ov sh tu rk' cb rlo rhi rl rg tf kn' tl th tv)) H := hP
  have hD : va_D A ((wM z cI cJ cZ zn zm zj zf zr zw zs zfr zto zk zt za zb zq zl zv zo zu zov ztu zsh zle zmo zc zlo zhi) ++ (wC q cI cJ cZ nr' wd sg lw hg fr to sn pl kd tg sa sb bn mt pa ob tb fo rv ro tk' ov sh tu rk' cb rlo rhi rl rg tf kn' tl th tv)) := hD
  refine lv_aload_n hx hb dL_law_297 rfl (lv_at hl 3 rfl) ?_
  refine lv_aload_n hx hb dL_law_298 rfl (lv_at hl 1 rfl) ?_
  refine lv_iload_n hx hb dL_law_299 rfl (lv_at hl 0 rfl) ?_
  refine lv_iconst (v := (1 : Int32)) hx hb dL_law_300 (by decide) ?_
  refine lv_iadd hx hb dL_law_301 ?_
  refine va_sld hx hb hX hbl hbA hS h_1 dL_law_302 ?_
  refine call_IW (r := r) C0 (run_VW C0 (rest := [.int r]) (kX8_mode l dC dI z cI cJ cZ zn zm zj zf zr zw zs zfr zto zk zt za zb zq zl zv zo zu zov ztu zsh zle zmo zc zlo zhi (xs (Int32.toNatClampNeg (x3 + (1 : Int32)))) _ e2 _) (cwV 1 hts lg_X8_mode rfl rfl rfl (by decide +kernel) ⟨by decide, by decide⟩) (sp_P1 hP) (sp_D1 hD) (ci := 8) (q0 := 0) rfl rfl rfl hl.1 rfl (Nat.le_of_ble_eq_true rfl) dL_law_303 ⟨by decide, by decide⟩) hP hD hS (fun H locs hP hD hS => ?_)
  have hP : va_P (dC, dI) vwCl ((wC q cI cJ cZ nr' wd sg lw hg fr to sn pl kd tg sa sb bn mt pa ob tb fo rv ro tk' ov sh tu rk' cb rlo rhi rl rg tf kn' tl th tv) ++ (wM z cI cJ cZ zn zm' zj zf zr zw zs zfr zto zk zt za zb zq zl zv zo zu zov ztu zsh zle zmo zc zlo zhi)) H := hP
  have hD : va_D A ((wC q cI cJ cZ nr' wd sg lw hg fr to sn pl kd tg sa sb bn mt pa ob tb fo rv ro tk' ov sh tu rk' cb rlo rhi rl rg tf kn' tl th tv) ++ (wM z cI cJ cZ zn zm' zj zf zr zw zs zfr zto zk zt za zb zq zl zv zo zu zov ztu zsh zle zmo zc zlo zhi)) := hD
  refine lv_icmp_eq (tgt := 656) hx hb dL_law_306 (by decide) (fun _ => ?_) (fun c9 => absurd rfl c9)
  exact K nr' wd sg lw hg fr to sn pl kd tg sa sb bn mt pa ob tb fo rv ro tk' ov sh tu rk' cb rlo rhi rl rg tf kn' tl th tv zn zm' zj zf zr zw zs zfr zto zk zt za zb zq zl zv zo zu zov ztu zsh zle zmo zc zlo zhi hI2 _ _ _ hP hD hS hl
set_option maxHeartbeats 8000000 in
set_option maxRecDepth 100000 in
theorem lc_5 {p : Program} {l : Launch} {e : Env} {s : State} {m : MethodId} {b : Nat} {below : List Frame} {meth : Method} {c : Code} {A : Nat → Prop} {dC : Nat → ClassId} {dI : Nat → Nat → Nat} {q z : Nat → Nat} {cI cJ cZ : ClassId} {L : Nat} {xs : Nat → Int32} {x3 : Int32} (C : LawC p s m b meth c A (dC, dI) cI cJ cZ L xs) (h_1 : vp_in (x3 + (1 : Int32)) L) (h_2 : vp_in (x3 + (2 : Int32)) L) (h_3 : vp_in (x3 + (3 : Int32)) L) (h_4 : vp_in (x3 + (4 : Int32)) L) (K : LawK p l e s m b below meth c A (dC, dI) q z cI cJ cZ x3 656) : LawK p l e s m b below meth c A (dC, dI) q z cI cJ cZ x3 311 := by
  obtain ⟨C0, hX, hbl, hbA⟩ := C
  have C1 := C0
  obtain ⟨hx, hb, hr, hml, hown, hts, hlocks, hN, hK, hA⟩ := C1
  intro nr wd sg lw hg fr to sn pl kd tg sa sb bn mt pa ob tb fo rv ro tk ov sh tu rk cb rlo rhi rl rg tf kn tl th tv zn zm zj zf zr zw zs zfr zto zk zt za zb zq zl zv zo zu zov ztu zsh zle zmo zc zlo zhi hI H locs ls hP hD hS hl
  refine lv_aload_n hx hb dL_law_311 rfl (lv_at hl 2 rfl) ?_
  refine lv_aload_n hx hb dL_law_312 rfl (lv_at hl 1 rfl) ?_
  refine lv_iload_n hx hb dL_law_313 rfl (lv_at hl 0 rfl) ?_
  refine lv_iconst (v := (1 : Int32)) hx hb dL_law_314 (by decide) ?_
  refine lv_iadd hx hb dL_law_315 ?_
  refine va_sld hx hb hX hbl hbA hS h_1 dL_law_316 ?_
  refine lv_aload_n hx hb dL_law_317 rfl (lv_at hl 1 rfl) ?_
  refine lv_iload_n hx hb dL_law_318 rfl (lv_at hl 0 rfl) ?_
  refine lv_iconst (v := (2 : Int32)) hx hb dL_law_319 (by decide) ?_
  refine lv_iadd hx hb dL_law_320 ?_
  refine va_sld hx hb hX hbl hbA hS h_2 dL_law_321 ?_
  refine lv_aload_n hx hb dL_law_322 rfl (lv_at hl 1 rfl) ?_
  refine lv_iload_n hx hb dL_law_323 rfl (lv_at hl 0 rfl) ?_
  refine lv_iconst (v := (3 : Int32)) hx hb dL_law_324 (by decide) ?_
  refine lv_iadd hx hb dL_law_325 ?_
  refine va_sld hx hb hX hbl hbA hS h_3 dL_law_326 ?_
  obtain ⟨r, ob', tb', fo', rv', zj', zf', zl', zv', zo', zu', e1, e2, hI2⟩ := p_run hI ob tb fo rv zj zf zl zv zo zu (xs (Int32.toNatClampNeg (x3 + (1 : Int32)))) (xs (Int32.toNatClampNeg (x3 + (2 : Int32)))) (xs (Int32.toNatClampNeg (x3 + (3 : Int32))))
  refine call_IW (r := r) C0 (run_VW C0 (rest := []) (kX7_run l dC dI q cI cJ cZ nr wd sg lw hg fr to sn pl kd tg sa sb bn mt pa ob tb fo rv ro tk ov sh tu rk cb rlo rhi rl rg tf kn tl th tv (xs (Int32.toNatClampNeg (x3 + (1 : Int32)))) (xs (Int32.toNatClampNeg (x3 + (2 : Int32)))) (xs (Int32.toNatClampNeg (x3 + (3 : Int32)))) _ e1 _) (cwV 3 hts lg_X7_run rfl rfl rfl (by decide +kernel) ⟨by decide, by decide⟩) (sp_P1 hP) (sp_D1 hD) (ci := 7) (q0 := 0) rfl rfl rfl hl.1 rfl (Nat.le_of_ble_eq_true rfl) dL_law_327 ⟨by decide, by decide⟩) hP hD hS (fun H locs hP hD hS => ?_)
  have hP : va_P (dC, dI) vwCl ((wM z cI cJ cZ zn zm zj zf zr zw zs zfr zto zk zt za zb zq zl zv zo zu zov ztu zsh zle zmo zc zlo zhi) ++ (wC q cI cJ cZ nr wd sg lw hg fr to sn pl kd tg sa sb bn mt pa ob' tb' fo' rv' ro tk ov sh tu rk cb rlo rhi rl rg tf kn tl th tv)) H := hP
  have hD : va_D A ((wM z cI cJ cZ zn zm zj zf zr zw zs zfr zto zk zt za zb zq zl zv zo zu zov ztu zsh zle zmo zc zlo zhi) ++ (wC q cI cJ cZ nr wd sg lw hg fr to sn pl kd tg sa sb bn mt pa ob' tb' fo' rv' ro tk ov sh tu rk cb rlo rhi rl rg tf kn tl th tv)) := hD
  refine lv_aload_n hx hb dL_law_330 rfl (lv_at hl 3 rfl) ?_
  refine lv_aload_n hx hb dL_law_331 rfl (lv_at hl 1 rfl) ?_
  refine lv_iload_n hx hb dL_law_332 rfl (lv_at hl 0 rfl) ?_
  refine lv_iconst (v := (1 : Int32)) hx hb dL_law_333 (by decide) ?_
  refine lv_iadd hx hb dL_law_334 ?_
  refine va_sld hx hb hX hbl hbA hS h_1 dL_law_335 ?_
  refine lv_aload_n hx hb dL_law_336 rfl (lv_at hl 1 rfl) ?_
  refine lv_iload_n hx hb dL_law_337 rfl (lv_at hl 0 rfl) ?_
  refine lv_iconst (v := (2 : Int32)) hx hb dL_law_338 (by decide) ?_
  refine lv_iadd hx hb dL_law_339 ?_
  refine va_sld hx hb hX hbl hbA hS h_2 dL_law_340 ?_
  refine lv_aload_n hx hb dL_law_341 rfl (lv_at hl 1 rfl) ?_
  refine lv_iload_n hx hb dL_law_342 rfl (lv_at hl 0 rfl) ?_
  refine lv_iconst (v := (3 : Int32)) hx hb dL_law_343 (by decide) ?_
  refine lv_iadd hx hb dL_law_344 ?_
  refine va_sld hx hb hX hbl hbA hS h_3 dL_law_345 ?_
  refine call_IW (r := r) C0 (run_VW C0 (rest := [.int r]) (kX8_run l dC dI z cI cJ cZ zn zm zj zf zr zw zs zfr zto zk zt za zb zq zl zv zo zu zov ztu zsh zle zmo zc zlo zhi (xs (Int32.toNatClampNeg (x3 + (1 : Int32)))) (xs (Int32.toNatClampNeg (x3 + (2 : Int32)))) (xs (Int32.toNatClampNeg (x3 + (3 : Int32)))) _ e2 _) (cwV 3 hts lg_X8_run rfl rfl rfl (by decide +kernel) ⟨by decide, by decide⟩) (sp_P1 hP) (sp_D1 hD) (ci := 8) (q0 := 0) rfl rfl rfl hl.1 rfl (Nat.le_of_ble_eq_true rfl) dL_law_346 ⟨by decide, by decide⟩) hP hD hS (fun H locs hP hD hS => ?_)
  have hP : va_P (dC, dI) vwCl ((wC q cI cJ cZ nr wd sg lw hg fr to sn pl kd tg sa sb bn mt pa ob' tb' fo' rv' ro tk ov sh tu rk cb rlo rhi rl rg tf kn tl th tv) ++ (wM z cI cJ cZ zn zm zj' zf' zr zw zs zfr zto zk zt za zb zq zl' zv' zo' zu' zov ztu zsh zle zmo zc zlo zhi)) H := hP
  have hD : va_D A ((wC q cI cJ cZ nr wd sg lw hg fr to sn pl kd tg sa sb bn mt pa ob' tb' fo' rv' ro tk ov sh tu rk cb rlo rhi rl rg tf kn tl th tv) ++ (wM z cI cJ cZ zn zm zj' zf' zr zw zs zfr zto zk zt za zb zq zl' zv' zo' zu' zov ztu zsh zle zmo zc zlo zhi)) := hD
  refine lv_icmp_eq (tgt := 656) hx hb dL_law_349 (by decide) (fun _ => ?_) (fun c9 => absurd rfl c9)
  exact K nr wd sg lw hg fr to sn pl kd tg sa sb bn mt pa ob' tb' fo' rv' ro tk ov sh tu rk cb rlo rhi rl rg tf kn tl th tv zn zm zj' zf' zr zw zs zfr zto zk zt za zb zq zl' zv' zo' zu' zov ztu zsh zle zmo zc zlo zhi hI2 _ _ _ hP hD hS hl
set_option maxHeartbeats 8000000 in
set_option maxRecDepth 100000 in
theorem lc_6 {p : Program} {l : Launch} {e : Env} {s : State} {m : MethodId} {b : Nat} {below : List Frame} {meth : Method} {c : Code} {A : Nat → Prop} {dC : Nat → ClassId} {dI : Nat → Nat → Nat} {q z : Nat → Nat} {cI cJ cZ : ClassId} {L : Nat} {xs : Nat → Int32} {x3 : Int32} (C : LawC p s m b meth c A (dC, dI) cI cJ cZ L xs) (h_1 : vp_in (x3 + (1 : Int32)) L) (h_2 : vp_in (x3 + (2 : Int32)) L) (h_3 : vp_in (x3 + (3 : Int32)) L) (h_4 : vp_in (x3 + (4 : Int32)) L) (K : LawK p l e s m b below meth c A (dC, dI) q z cI cJ cZ x3 656) : LawK p l e s m b below meth c A (dC, dI) q z cI cJ cZ x3 354 := by
  obtain ⟨C0, hX, hbl, hbA⟩ := C
  have C1 := C0
  obtain ⟨hx, hb, hr, hml, hown, hts, hlocks, hN, hK, hA⟩ := C1
  intro nr wd sg lw hg fr to sn pl kd tg sa sb bn mt pa ob tb fo rv ro tk ov sh tu rk cb rlo rhi rl rg tf kn tl th tv zn zm zj zf zr zw zs zfr zto zk zt za zb zq zl zv zo zu zov ztu zsh zle zmo zc zlo zhi hI H locs ls hP hD hS hl
  refine lv_aload_n hx hb dL_law_354 rfl (lv_at hl 2 rfl) ?_
  refine lv_aload_n hx hb dL_law_355 rfl (lv_at hl 1 rfl) ?_
  refine lv_iload_n hx hb dL_law_356 rfl (lv_at hl 0 rfl) ?_
  refine lv_iconst (v := (1 : Int32)) hx hb dL_law_357 (by decide) ?_
  refine lv_iadd hx hb dL_law_358 ?_
  refine va_sld hx hb hX hbl hbA hS h_1 dL_law_359 ?_
  refine lv_aload_n hx hb dL_law_360 rfl (lv_at hl 1 rfl) ?_
  refine lv_iload_n hx hb dL_law_361 rfl (lv_at hl 0 rfl) ?_
  refine lv_iconst (v := (2 : Int32)) hx hb dL_law_362 (by decide) ?_
  refine lv_iadd hx hb dL_law_363 ?_
  refine va_sld hx hb hX hbl hbA hS h_2 dL_law_364 ?_
  obtain ⟨r, ob', tb', fo', rv', zj', zf', zl', zv', zo', zu', e1, e2, hI2⟩ := p_first hI ob tb fo rv zj zf zl zv zo zu (xs (Int32.toNatClampNeg (x3 + (1 : Int32)))) (xs (Int32.toNatClampNeg (x3 + (2 : Int32))))
  refine call_IW (r := r) C0 (run_VW C0 (rest := []) (kX7_first l dC dI q cI cJ cZ nr wd sg lw hg fr to sn pl kd tg sa sb bn mt pa ob tb fo rv ro tk ov sh tu rk cb rlo rhi rl rg tf kn tl th tv (xs (Int32.toNatClampNeg (x3 + (1 : Int32)))) (xs (Int32.toNatClampNeg (x3 + (2 : Int32)))) _ e1 _) (cwV 2 hts lg_X7_first rfl rfl rfl (by decide +kernel) ⟨by decide, by decide⟩) (sp_P1 hP) (sp_D1 hD) (ci := 7) (q0 := 0) rfl rfl rfl hl.1 rfl (Nat.le_of_ble_eq_true rfl) dL_law_365 ⟨by decide, by decide⟩) hP hD hS (fun H locs hP hD hS => ?_)
  have hP : va_P (dC, dI) vwCl ((wM z cI cJ cZ zn zm zj zf zr zw zs zfr zto zk zt za zb zq zl zv zo zu zov ztu zsh zle zmo zc zlo zhi) ++ (wC q cI cJ cZ nr wd sg lw hg fr to sn pl kd tg sa sb bn mt pa ob' tb' fo' rv' ro tk ov sh tu rk cb rlo rhi rl rg tf kn tl th tv)) H := hP
  have hD : va_D A ((wM z cI cJ cZ zn zm zj zf zr zw zs zfr zto zk zt za zb zq zl zv zo zu zov ztu zsh zle zmo zc zlo zhi) ++ (wC q cI cJ cZ nr wd sg lw hg fr to sn pl kd tg sa sb bn mt pa ob' tb' fo' rv' ro tk ov sh tu rk cb rlo rhi rl rg tf kn tl th tv)) := hD
  refine lv_aload_n hx hb dL_law_368 rfl (lv_at hl 3 rfl) ?_
  refine lv_aload_n hx hb dL_law_369 rfl (lv_at hl 1 rfl) ?_
  refine lv_iload_n hx hb dL_law_370 rfl (lv_at hl 0 rfl) ?_
  refine lv_iconst (v := (1 : Int32)) hx hb dL_law_371 (by decide) ?_
  refine lv_iadd hx hb dL_law_372 ?_
  refine va_sld hx hb hX hbl hbA hS h_1 dL_law_373 ?_
  refine lv_aload_n hx hb dL_law_374 rfl (lv_at hl 1 rfl) ?_
  refine lv_iload_n hx hb dL_law_375 rfl (lv_at hl 0 rfl) ?_
  refine lv_iconst (v := (2 : Int32)) hx hb dL_law_376 (by decide) ?_
  refine lv_iadd hx hb dL_law_377 ?_
  refine va_sld hx hb hX hbl hbA hS h_2 dL_law_378 ?_
  refine call_IW (r := r) C0 (run_VW C0 (rest := [.int r]) (kX8_first l dC dI z cI cJ cZ zn zm zj zf zr zw zs zfr zto zk zt za zb zq zl zv zo zu zov ztu zsh zle zmo zc zlo zhi (xs (Int32.toNatClampNeg (x3 + (1 : Int32)))) (xs (Int32.toNatClampNeg (x3 + (2 : Int32)))) _ e2 _) (cwV 2 hts lg_X8_first rfl rfl rfl (by decide +kernel) ⟨by decide, by decide⟩) (sp_P1 hP) (sp_D1 hD) (ci := 8) (q0 := 0) rfl rfl rfl hl.1 rfl (Nat.le_of_ble_eq_true rfl) dL_law_379 ⟨by decide, by decide⟩) hP hD hS (fun H locs hP hD hS => ?_)
  have hP : va_P (dC, dI) vwCl ((wC q cI cJ cZ nr wd sg lw hg fr to sn pl kd tg sa sb bn mt pa ob' tb' fo' rv' ro tk ov sh tu rk cb rlo rhi rl rg tf kn tl th tv) ++ (wM z cI cJ cZ zn zm zj' zf' zr zw zs zfr zto zk zt za zb zq zl' zv' zo' zu' zov ztu zsh zle zmo zc zlo zhi)) H := hP
  have hD : va_D A ((wC q cI cJ cZ nr wd sg lw hg fr to sn pl kd tg sa sb bn mt pa ob' tb' fo' rv' ro tk ov sh tu rk cb rlo rhi rl rg tf kn tl th tv) ++ (wM z cI cJ cZ zn zm zj' zf' zr zw zs zfr zto zk zt za zb zq zl' zv' zo' zu' zov ztu zsh zle zmo zc zlo zhi)) := hD
  refine lv_icmp_eq (tgt := 656) hx hb dL_law_382 (by decide) (fun _ => ?_) (fun c9 => absurd rfl c9)
  exact K nr wd sg lw hg fr to sn pl kd tg sa sb bn mt pa ob' tb' fo' rv' ro tk ov sh tu rk cb rlo rhi rl rg tf kn tl th tv zn zm zj' zf' zr zw zs zfr zto zk zt za zb zq zl' zv' zo' zu' zov ztu zsh zle zmo zc zlo zhi hI2 _ _ _ hP hD hS hl
set_option maxHeartbeats 8000000 in
set_option maxRecDepth 100000 in
theorem lc_7 {p : Program} {l : Launch} {e : Env} {s : State} {m : MethodId} {b : Nat} {below : List Frame} {meth : Method} {c : Code} {A : Nat → Prop} {dC : Nat → ClassId} {dI : Nat → Nat → Nat} {q z : Nat → Nat} {cI cJ cZ : ClassId} {L : Nat} {xs : Nat → Int32} {x3 : Int32} (C : LawC p s m b meth c A (dC, dI) cI cJ cZ L xs) (h_1 : vp_in (x3 + (1 : Int32)) L) (h_2 : vp_in (x3 + (2 : Int32)) L) (h_3 : vp_in (x3 + (3 : Int32)) L) (h_4 : vp_in (x3 + (4 : Int32)) L) (K : LawK p l e s m b below meth c A (dC, dI) q z cI cJ cZ x3 656) : LawK p l e s m b below meth c A (dC, dI) q z cI cJ cZ x3 387 := by
  obtain ⟨C0, hX, hbl, hbA⟩ := C
  have C1 := C0
  obtain ⟨hx, hb, hr, hml, hown, hts, hlocks, hN, hK, hA⟩ := C1
  intro nr wd sg lw hg fr to sn pl kd tg sa sb bn mt pa ob tb fo rv ro tk ov sh tu rk cb rlo rhi rl rg tf kn tl th tv zn zm zj zf zr zw zs zfr zto zk zt za zb zq zl zv zo zu zov ztu zsh zle zmo zc zlo zhi hI H locs ls hP hD hS hl
  refine lv_aload_n hx hb dL_law_387 rfl (lv_at hl 2 rfl) ?_
  refine lv_aload_n hx hb dL_law_388 rfl (lv_at hl 1 rfl) ?_
  refine lv_iload_n hx hb dL_law_389 rfl (lv_at hl 0 rfl) ?_
  refine lv_iconst (v := (1 : Int32)) hx hb dL_law_390 (by decide) ?_
  refine lv_iadd hx hb dL_law_391 ?_
  refine va_sld hx hb hX hbl hbA hS h_1 dL_law_392 ?_
  obtain ⟨r, ob', tb', fo', rv', ro', tk', ov', sh', tu', rk', cb', rlo', rhi', rl', rg', zj', zf', zr', zl', zv', zo', zu', zov', ztu', zsh', zle', zmo', zc', e1, e2, hI2⟩ := p_judge hI ob tb fo rv rlo rhi zj zf zr zl zv zo zu zov ztu zsh zle zmo zc (xs (Int32.toNatClampNeg (x3 + (1 : Int32))))
  refine call_IW (r := r) C0 (run_VW C0 (rest := []) (kX7_judge l dC dI q cI cJ cZ nr wd sg lw hg fr to sn pl kd tg sa sb bn mt pa ob tb fo rv ro tk ov sh tu rk cb rlo rhi rl rg tf kn tl th tv (xs (Int32.toNatClampNeg (x3 + (1 : Int32)))) _ e1 _) (cwV 1 hts lg_X7_judge rfl rfl rfl (by decide +kernel) ⟨by decide, by decide⟩) (sp_P1 hP) (sp_D1 hD) (ci := 7) (q0 := 0) rfl rfl rfl hl.1 rfl (Nat.le_of_ble_eq_true rfl) dL_law_393 ⟨by decide, by decide⟩) hP hD hS (fun H locs hP hD hS => ?_)
  have hP : va_P (dC, dI) vwCl ((wM z cI cJ cZ zn zm zj zf zr zw zs zfr zto zk zt za zb zq zl zv zo zu zov ztu zsh zle zmo zc zlo zhi) ++ (wC q cI cJ cZ nr wd sg lw hg fr to sn pl kd tg sa sb bn mt pa ob' tb' fo' rv' ro' tk' ov' sh' tu' rk' cb' rlo' rhi' rl' rg' tf kn tl th tv)) H := hP
  have hD : va_D A ((wM z cI cJ cZ zn zm zj zf zr zw zs zfr zto zk zt za zb zq zl zv zo zu zov ztu zsh zle zmo zc zlo zhi) ++ (wC q cI cJ cZ nr wd sg lw hg fr to sn pl kd tg sa sb bn mt pa ob' tb' fo' rv' ro' tk' ov' sh' tu' rk' cb' rlo' rhi' rl' rg' tf kn tl th tv)) := hD
  refine lv_aload_n hx hb dL_law_396 rfl (lv_at hl 3 rfl) ?_
  refine lv_aload_n hx hb dL_law_397 rfl (lv_at hl 1 rfl) ?_
  refine lv_iload_n hx hb dL_law_398 rfl (lv_at hl 0 rfl) ?_
  refine lv_iconst (v := (1 : Int32)) hx hb dL_law_399 (by decide) ?_
  refine lv_iadd hx hb dL_law_400 ?_
  refine va_sld hx hb hX hbl hbA hS h_1 dL_law_401 ?_
  refine call_IW (r := r) C0 (run_VW C0 (rest := [.int r]) (kX8_judge l dC dI z cI cJ cZ zn zm zj zf zr zw zs zfr zto zk zt za zb zq zl zv zo zu zov ztu zsh zle zmo zc zlo zhi (xs (Int32.toNatClampNeg (x3 + (1 : Int32)))) _ e2 _) (cwV 1 hts lg_X8_judge rfl rfl rfl (by decide +kernel) ⟨by decide, by decide⟩) (sp_P1 hP) (sp_D1 hD) (ci := 8) (q0 := 0) rfl rfl rfl hl.1 rfl (Nat.le_of_ble_eq_true rfl) dL_law_402 ⟨by decide, by decide⟩) hP hD hS (fun H locs hP hD hS => ?_)
  have hP : va_P (dC, dI) vwCl ((wC q cI cJ cZ nr wd sg lw hg fr to sn pl kd tg sa sb bn mt pa ob' tb' fo' rv' ro' tk' ov' sh' tu' rk' cb' rlo' rhi' rl' rg' tf kn tl th tv) ++ (wM z cI cJ cZ zn zm zj' zf' zr' zw zs zfr zto zk zt za zb zq zl' zv' zo' zu' zov' ztu' zsh' zle' zmo' zc' zlo zhi)) H := hP
  have hD : va_D A ((wC q cI cJ cZ nr wd sg lw hg fr to sn pl kd tg sa sb bn mt pa ob' tb' fo' rv' ro' tk' ov' sh' tu' rk' cb' rlo' rhi' rl' rg' tf kn tl th tv) ++ (wM z cI cJ cZ zn zm zj' zf' zr' zw zs zfr zto zk zt za zb zq zl' zv' zo' zu' zov' ztu' zsh' zle' zmo' zc' zlo zhi)) := hD
  refine lv_icmp_eq (tgt := 656) hx hb dL_law_405 (by decide) (fun _ => ?_) (fun c9 => absurd rfl c9)
  exact K nr wd sg lw hg fr to sn pl kd tg sa sb bn mt pa ob' tb' fo' rv' ro' tk' ov' sh' tu' rk' cb' rlo' rhi' rl' rg' tf kn tl th tv zn zm zj' zf' zr' zw zs zfr zto zk zt za zb zq zl' zv' zo' zu' zov' ztu' zsh' zle' zmo' zc' zlo zhi hI2 _ _ _ hP hD hS hl
set_option maxHeartbeats 8000000 in
set_option maxRecDepth 100000 in
theorem lc_8 {p : Program} {l : Launch} {e : Env} {s : State} {m : MethodId} {b : Nat} {below : List Frame} {meth : Method} {c : Code} {A : Nat → Prop} {dC : Nat → ClassId} {dI : Nat → Nat → Nat} {q z : Nat → Nat} {cI cJ cZ : ClassId} {L : Nat} {xs : Nat → Int32} {x3 : Int32} (C : LawC p s m b meth c A (dC, dI) cI cJ cZ L xs) (h_1 : vp_in (x3 + (1 : Int32)) L) (h_2 : vp_in (x3 + (2 : Int32)) L) (h_3 : vp_in (x3 + (3 : Int32)) L) (h_4 : vp_in (x3 + (4 : Int32)) L) (K : LawK p l e s m b below meth c A (dC, dI) q z cI cJ cZ x3 656) : LawK p l e s m b below meth c A (dC, dI) q z cI cJ cZ x3 410 := by
  obtain ⟨C0, hX, hbl, hbA⟩ := C
  have C1 := C0
  obtain ⟨hx, hb, hr, hml, hown, hts, hlocks, hN, hK, hA⟩ := C1
  intro nr wd sg lw hg fr to sn pl kd tg sa sb bn mt pa ob tb fo rv ro tk ov sh tu rk cb rlo rhi rl rg tf kn tl th tv zn zm zj zf zr zw zs zfr zto zk zt za zb zq zl zv zo zu zov ztu zsh zle zmo zc zlo zhi hI H locs ls hP hD hS hl
  refine lv_aload_n hx hb dL_law_410 rfl (lv_at hl 2 rfl) ?_
  refine lv_aload_n hx hb dL_law_411 rfl (lv_at hl 1 rfl) ?_
  refine lv_iload_n hx hb dL_law_412 rfl (lv_at hl 0 rfl) ?_
  refine lv_iconst (v := (1 : Int32)) hx hb dL_law_413 (by decide) ?_
  refine lv_iadd hx hb dL_law_414 ?_
  refine va_sld hx hb hX hbl hbA hS h_1 dL_law_415 ?_
  obtain ⟨r, ob', tb', fo', rv', ro', tk', ov', sh', tu', zj', zf', zr', zl', zv', zo', zu', zov', ztu', zsh', e1, e2, hI2⟩ := p_over hI ob tb fo rv zj zf zr zl zv zo zu zov ztu zsh (xs (Int32.toNatClampNeg (x3 + (1 : Int32))))
  refine call_IW (r := r) C0 (run_VW C0 (rest := []) (kX7_over l dC dI q cI cJ cZ nr wd sg lw hg fr to sn pl kd tg sa sb bn mt pa ob tb fo rv ro tk ov sh tu rk cb rlo rhi rl rg tf kn tl th tv (xs (Int32.toNatClampNeg (x3 + (1 : Int32)))) _ e1 _) (cwV 1 hts lg_X7_over rfl rfl rfl (by decide +kernel) ⟨by decide, by decide⟩) (sp_P1 hP) (sp_D1 hD) (ci := 7) (q0 := 0) rfl rfl rfl hl.1 rfl (Nat.le_of_ble_eq_true rfl) dL_law_416 ⟨by decide, by decide⟩) hP hD hS (fun H locs hP hD hS => ?_)
  have hP : va_P (dC, dI) vwCl ((wM z cI cJ cZ zn zm zj zf zr zw zs zfr zto zk zt za zb zq zl zv zo zu zov ztu zsh zle zmo zc zlo zhi) ++ (wC q cI cJ cZ nr wd sg lw hg fr to sn pl kd tg sa sb bn mt pa ob' tb' fo' rv' ro' tk' ov' sh' tu' rk cb rlo rhi rl rg tf kn tl th tv)) H := hP
  have hD : va_D A ((wM z cI cJ cZ zn zm zj zf zr zw zs zfr zto zk zt za zb zq zl zv zo zu zov ztu zsh zle zmo zc zlo zhi) ++ (wC q cI cJ cZ nr wd sg lw hg fr to sn pl kd tg sa sb bn mt pa ob' tb' fo' rv' ro' tk' ov' sh' tu' rk cb rlo rhi rl rg tf kn tl th tv)) := hD
  refine lv_aload_n hx hb dL_law_419 rfl (lv_at hl 3 rfl) ?_
  refine lv_aload_n hx hb dL_law_420 rfl (lv_at hl 1 rfl) ?_
  refine lv_iload_n hx hb dL_law_421 rfl (lv_at hl 0 rfl) ?_
  refine lv_iconst (v := (1 : Int32)) hx hb dL_law_422 (by decide) ?_
  refine lv_iadd hx hb dL_law_423 ?_
  refine va_sld hx hb hX hbl hbA hS h_1 dL_law_424 ?_
  refine call_IW (r := r) C0 (run_VW C0 (rest := [.int r]) (kX8_over l dC dI z cI cJ cZ zn zm zj zf zr zw zs zfr zto zk zt za zb zq zl zv zo zu zov ztu zsh zle zmo zc zlo zhi (xs (Int32.toNatClampNeg (x3 + (1 : Int32)))) _ e2 _) (cwV 1 hts lg_X8_over rfl rfl rfl (by decide +kernel) ⟨by decide, by decide⟩) (sp_P1 hP) (sp_D1 hD) (ci := 8) (q0 := 0) rfl rfl rfl hl.1 rfl (Nat.le_of_ble_eq_true rfl) dL_law_425 ⟨by decide, by decide⟩) hP hD hS (fun H locs hP hD hS => ?_)
  have hP : va_P (dC, dI) vwCl ((wC q cI cJ cZ nr wd sg lw hg fr to sn pl kd tg sa sb bn mt pa ob' tb' fo' rv' ro' tk' ov' sh' tu' rk cb rlo rhi rl rg tf kn tl th tv) ++ (wM z cI cJ cZ zn zm zj' zf' zr' zw zs zfr zto zk zt za zb zq zl' zv' zo' zu' zov' ztu' zsh' zle zmo zc zlo zhi)) H := hP
  have hD : va_D A ((wC q cI cJ cZ nr wd sg lw hg fr to sn pl kd tg sa sb bn mt pa ob' tb' fo' rv' ro' tk' ov' sh' tu' rk cb rlo rhi rl rg tf kn tl th tv) ++ (wM z cI cJ cZ zn zm zj' zf' zr' zw zs zfr zto zk zt za zb zq zl' zv' zo' zu' zov' ztu' zsh' zle zmo zc zlo zhi)) := hD
  refine lv_icmp_eq (tgt := 656) hx hb dL_law_428 (by decide) (fun _ => ?_) (fun c9 => absurd rfl c9)
  exact K nr wd sg lw hg fr to sn pl kd tg sa sb bn mt pa ob' tb' fo' rv' ro' tk' ov' sh' tu' rk cb rlo rhi rl rg tf kn tl th tv zn zm zj' zf' zr' zw zs zfr zto zk zt za zb zq zl' zv' zo' zu' zov' ztu' zsh' zle zmo zc zlo zhi hI2 _ _ _ hP hD hS hl
