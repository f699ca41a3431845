set_option maxHeartbeats 8000000 in
set_option maxRecDepth 100000 in
theorem lc_9 {p : Program} {l : Launch} {e : Env} {s : State} {m : MethodId} {b : Nat} {below : List Frame} {meth : Method} {c : Code} {A : Nat → Prop} {dC : Nat → ClassId} {dI : Nat → Nat → Nat} {q z : Nat → Nat} {cI cJ cZ : ClassId} {L : Nat} {xs : Nat → Int32} {x3 : Int32} (C : LawC p s m b meth c A (dC, dI) cI cJ cZ L xs) (h_1 : vp_in (x3 + (1 : Int32)) L) (h_2 : vp_in (x3 + (2 : Int32)) L) (h_3 : vp_in (x3 + (3 : Int32)) L) (h_4 : vp_in (x3 + (4 : Int32)) L) (K : LawK p l e s m b below meth c A (dC, dI) q z cI cJ cZ x3 656) : LawK p l e s m b below meth c A (dC, dI) q z cI cJ cZ x3 433 := by
  obtain ⟨C0, hX, hbl, hbA⟩ := C
  have C1 := C0
  obtain ⟨hx, hb, hr, hml, hown, hts, hlocks, hN, hK, hA⟩ := C1
  intro nr wd sg lw hg fr to sn pl kd tg sa sb bn mt pa ob tb fo rv ro tk ov sh tu rk cb rlo rhi rl rg tf kn tl th tv zn zm zj zf zr zw zs zfr zto zk zt za zb zq zl zv zo zu zov ztu zsh zle zmo zc zlo zhi hI H locs ls hP hD hS hl
  refine lv_aload_n hx hb dL_law_433 rfl (lv_at hl 2 rfl) ?_
  refine lv_aload_n hx hb dL_law_434 rfl (lv_at hl 1 rfl) ?_
  refine lv_iload_n hx hb dL_law_435 rfl (lv_at hl 0 rfl) ?_
  refine lv_iconst (v := (1 : Int32)) hx hb dL_law_436 (by decide) ?_
  refine lv_iadd hx hb dL_law_437 ?_
  refine va_sld hx hb hX hbl hbA hS h_1 dL_law_438 ?_
  obtain ⟨r, ob', tb', fo', rv', ro', tk', ov', sh', tu', zj', zf', zr', zl', zv', zo', zu', zov', ztu', zsh', e1, e2, hI2⟩ := p_shown hI ob tb fo rv zj zf zr zl zv zo zu zov ztu zsh (xs (Int32.toNatClampNeg (x3 + (1 : Int32))))
  refine call_IW (r := r) C0 (run_VW C0 (rest := []) (kX7_shown l dC dI q cI cJ cZ nr wd sg lw hg fr to sn pl kd tg sa sb bn mt pa ob tb fo rv ro tk ov sh tu rk cb rlo rhi rl rg tf kn tl th tv (xs (Int32.toNatClampNeg (x3 + (1 : Int32)))) _ e1 _) (cwV 1 hts lg_X7_shown rfl rfl rfl (by decide +kernel) ⟨by decide, by decide⟩) (sp_P1 hP) (sp_D1 hD) (ci := 7) (q0 := 0) rfl rfl rfl hl.1 rfl (Nat.le_of_ble_eq_true rfl) dL_law_439 ⟨by decide, by decide⟩) hP hD hS (fun H locs hP hD hS => ?_)
  have hP : va_P (dC, dI) vwCl ((wM z cI cJ cZ zn zm zj zf zr zw zs zfr zto zk zt za zb zq zl zv zo zu zov ztu zsh zle zmo zc zlo zhi) ++ (wC q cI cJ cZ nr wd sg lw hg fr to sn pl kd tg sa sb bn mt pa ob' tb' fo' rv' ro' tk' ov' sh' tu' rk cb rlo rhi rl rg tf kn tl th tv)) H := hP
  have hD : va_D A ((wM z cI cJ cZ zn zm zj zf zr zw zs zfr zto zk zt za zb zq zl zv zo zu zov ztu zsh zle zmo zc zlo zhi) ++ (wC q cI cJ cZ nr wd sg lw hg fr to sn pl kd tg sa sb bn mt pa ob' tb' fo' rv' ro' tk' ov' sh' tu' rk cb rlo rhi rl rg tf kn tl th tv)) := hD
  refine lv_aload_n hx hb dL_law_442 rfl (lv_at hl 3 rfl) ?_
  refine lv_aload_n hx hb dL_law_443 rfl (lv_at hl 1 rfl) ?_
  refine lv_iload_n hx hb dL_law_444 rfl (lv_at hl 0 rfl) ?_
  refine lv_iconst (v := (1 : Int32)) hx hb dL_law_445 (by decide) ?_
  refine lv_iadd hx hb dL_law_446 ?_
  refine va_sld hx hb hX hbl hbA hS h_1 dL_law_447 ?_
  refine call_IW (r := r) C0 (run_VW C0 (rest := [.int r]) (kX8_shown l dC dI z cI cJ cZ zn zm zj zf zr zw zs zfr zto zk zt za zb zq zl zv zo zu zov ztu zsh zle zmo zc zlo zhi (xs (Int32.toNatClampNeg (x3 + (1 : Int32)))) _ e2 _) (cwV 1 hts lg_X8_shown rfl rfl rfl (by decide +kernel) ⟨by decide, by decide⟩) (sp_P1 hP) (sp_D1 hD) (ci := 8) (q0 := 0) rfl rfl rfl hl.1 rfl (Nat.le_of_ble_eq_true rfl) dL_law_448 ⟨by decide, by decide⟩) hP hD hS (fun H locs hP hD hS => ?_)
  have hP : va_P (dC, dI) vwCl ((wC q cI cJ cZ nr wd sg lw hg fr to sn pl kd tg sa sb bn mt pa ob' tb' fo' rv' ro' tk' ov' sh' tu' rk cb rlo rhi rl rg tf kn tl th tv) ++ (wM z cI cJ cZ zn zm zj' zf' zr' zw zs zfr zto zk zt za zb zq zl' zv' zo' zu' zov' ztu' zsh' zle zmo zc zlo zhi)) H := hP
  have hD : va_D A ((wC q cI cJ cZ nr wd sg lw hg fr to sn pl kd tg sa sb bn mt pa ob' tb' fo' rv' ro' tk' ov' sh' tu' rk cb rlo rhi rl rg tf kn tl th tv) ++ (wM z cI cJ cZ zn zm zj' zf' zr' zw zs zfr zto zk zt za zb zq zl' zv' zo' zu' zov' ztu' zsh' zle zmo zc zlo zhi)) := hD
  refine lv_icmp_eq (tgt := 656) hx hb dL_law_451 (by decide) (fun _ => ?_) (fun c9 => absurd rfl c9)
  exact K nr wd sg lw hg fr to sn pl kd tg sa sb bn mt pa ob' tb' fo' rv' ro' tk' ov' sh' tu' rk cb rlo rhi rl rg tf kn tl th tv zn zm zj' zf' zr' zw zs zfr zto zk zt za zb zq zl' zv' zo' zu' zov' ztu' zsh' zle zmo zc zlo zhi hI2 _ _ _ hP hD hS hl
set_option maxHeartbeats 8000000 in
set_option maxRecDepth 100000 in
theorem lc_10 {p : Program} {l : Launch} {e : Env} {s : State} {m : MethodId} {b : Nat} {below : List Frame} {meth : Method} {c : Code} {A : Nat → Prop} {dC : Nat → ClassId} {dI : Nat → Nat → Nat} {q z : Nat → Nat} {cI cJ cZ : ClassId} {L : Nat} {xs : Nat → Int32} {x3 : Int32} (C : LawC p s m b meth c A (dC, dI) cI cJ cZ L xs) (h_1 : vp_in (x3 + (1 : Int32)) L) (h_2 : vp_in (x3 + (2 : Int32)) L) (h_3 : vp_in (x3 + (3 : Int32)) L) (h_4 : vp_in (x3 + (4 : Int32)) L) (K : LawK p l e s m b below meth c A (dC, dI) q z cI cJ cZ x3 656) : LawK p l e s m b below meth c A (dC, dI) q z cI cJ cZ x3 456 := by
  obtain ⟨C0, hX, hbl, hbA⟩ := C
  have C1 := C0
  obtain ⟨hx, hb, hr, hml, hown, hts, hlocks, hN, hK, hA⟩ := C1
  intro nr wd sg lw hg fr to sn pl kd tg sa sb bn mt pa ob tb fo rv ro tk ov sh tu rk cb rlo rhi rl rg tf kn tl th tv zn zm zj zf zr zw zs zfr zto zk zt za zb zq zl zv zo zu zov ztu zsh zle zmo zc zlo zhi hI H locs ls hP hD hS hl
  refine lv_aload_n hx hb dL_law_456 rfl (lv_at hl 2 rfl) ?_
  refine lv_aload_n hx hb dL_law_457 rfl (lv_at hl 1 rfl) ?_
  refine lv_iload_n hx hb dL_law_458 rfl (lv_at hl 0 rfl) ?_
  refine lv_iconst (v := (1 : Int32)) hx hb dL_law_459 (by decide) ?_
  refine lv_iadd hx hb dL_law_460 ?_
  refine va_sld hx hb hX hbl hbA hS h_1 dL_law_461 ?_
  obtain ⟨r, ob', tb', fo', rv', ro', tk', ov', sh', tu', zj', zf', zr', zl', zv', zo', zu', zov', ztu', zsh', e1, e2, hI2⟩ := p_turned hI ob tb fo rv zj zf zr zl zv zo zu zov ztu zsh (xs (Int32.toNatClampNeg (x3 + (1 : Int32))))
  refine call_IW (r := r) C0 (run_VW C0 (rest := []) (kX7_turned l dC dI q cI cJ cZ nr wd sg lw hg fr to sn pl kd tg sa sb bn mt pa ob tb fo rv ro tk ov sh tu rk cb rlo rhi rl rg tf kn tl th tv (xs (Int32.toNatClampNeg (x3 + (1 : Int32)))) _ e1 _) (cwV 1 hts lg_X7_turned rfl rfl rfl (by decide +kernel) ⟨by decide, by decide⟩) (sp_P1 hP) (sp_D1 hD) (ci := 7) (q0 := 0) rfl rfl rfl hl.1 rfl (Nat.le_of_ble_eq_true rfl) dL_law_462 ⟨by decide, by decide⟩) hP hD hS (fun H locs hP hD hS => ?_)
  have hP : va_P (dC, dI) vwCl ((wM z cI cJ cZ zn zm zj zf zr zw zs zfr zto zk zt za zb zq zl zv zo zu zov ztu zsh zle zmo zc zlo zhi) ++ (wC q cI cJ cZ nr wd sg lw hg fr to sn pl kd tg sa sb bn mt pa ob' tb' fo' rv' ro' tk' ov' sh' tu' rk cb rlo rhi rl rg tf kn tl th tv)) H := hP
  have hD : va_D A ((wM z cI cJ cZ zn zm zj zf zr zw zs zfr zto zk zt za zb zq zl zv zo zu zov ztu zsh zle zmo zc zlo zhi) ++ (wC q cI cJ cZ nr wd sg lw hg fr to sn pl kd tg sa sb bn mt pa ob' tb' fo' rv' ro' tk' ov' sh' tu' rk cb rlo rhi rl rg tf kn tl th tv)) := hD
  refine lv_aload_n hx hb dL_law_465 rfl (lv_at hl 3 rfl) ?_
  refine lv_aload_n hx hb dL_law_466 rfl (lv_at hl 1 rfl) ?_
  refine lv_iload_n hx hb dL_law_467 rfl (lv_at hl 0 rfl) ?_
  refine lv_iconst (v := (1 : Int32)) hx hb dL_law_468 (by decide) ?_
  refine lv_iadd hx hb dL_law_469 ?_
  refine va_sld hx hb hX hbl hbA hS h_1 dL_law_470 ?_
  refine call_IW (r := r) C0 (run_VW C0 (rest := [.int r]) (kX8_turned l dC dI z cI cJ cZ zn zm zj zf zr zw zs zfr zto zk zt za zb zq zl zv zo zu zov ztu zsh zle zmo zc zlo zhi (xs (Int32.toNatClampNeg (x3 + (1 : Int32)))) _ e2 _) (cwV 1 hts lg_X8_turned rfl rfl rfl (by decide +kernel) ⟨by decide, by decide⟩) (sp_P1 hP) (sp_D1 hD) (ci := 8) (q0 := 0) rfl rfl rfl hl.1 rfl (Nat.le_of_ble_eq_true rfl) dL_law_471 ⟨by decide, by decide⟩) hP hD hS (fun H locs hP hD hS => ?_)
  have hP : va_P (dC, dI) vwCl ((wC q cI cJ cZ nr wd sg lw hg fr to sn pl kd tg sa sb bn mt pa ob' tb' fo' rv' ro' tk' ov' sh' tu' rk cb rlo rhi rl rg tf kn tl th tv) ++ (wM z cI cJ cZ zn zm zj' zf' zr' zw zs zfr zto zk zt za zb zq zl' zv' zo' zu' zov' ztu' zsh' zle zmo zc zlo zhi)) H := hP
  have hD : va_D A ((wC q cI cJ cZ nr wd sg lw hg fr to sn pl kd tg sa sb bn mt pa ob' tb' fo' rv' ro' tk' ov' sh' tu' rk cb rlo rhi rl rg tf kn tl th tv) ++ (wM z cI cJ cZ zn zm zj' zf' zr' zw zs zfr zto zk zt za zb zq zl' zv' zo' zu' zov' ztu' zsh' zle zmo zc zlo zhi)) := hD
  refine lv_icmp_eq (tgt := 656) hx hb dL_law_474 (by decide) (fun _ => ?_) (fun c9 => absurd rfl c9)
  exact K nr wd sg lw hg fr to sn pl kd tg sa sb bn mt pa ob' tb' fo' rv' ro' tk' ov' sh' tu' rk cb rlo rhi rl rg tf kn tl th tv zn zm zj' zf' zr' zw zs zfr zto zk zt za zb zq zl' zv' zo' zu' zov' ztu' zsh' zle zmo zc zlo zhi hI2 _ _ _ hP hD hS hl
set_option maxHeartbeats 8000000 in
set_option maxRecDepth 100000 in
theorem lc_11 {p : Program} {l : Launch} {e : Env} {s : State} {m : MethodId} {b : Nat} {below : List Frame} {meth : Method} {c : Code} {A : Nat → Prop} {dC : Nat → ClassId} {dI : Nat → Nat → Nat} {q z : Nat → Nat} {cI cJ cZ : ClassId} {L : Nat} {xs : Nat → Int32} {x3 : Int32} (C : LawC p s m b meth c A (dC, dI) cI cJ cZ L xs) (h_1 : vp_in (x3 + (1 : Int32)) L) (h_2 : vp_in (x3 + (2 : Int32)) L) (h_3 : vp_in (x3 + (3 : Int32)) L) (h_4 : vp_in (x3 + (4 : Int32)) L) (K : LawK p l e s m b below meth c A (dC, dI) q z cI cJ cZ x3 656) : LawK p l e s m b below meth c A (dC, dI) q z cI cJ cZ x3 479 := by
  obtain ⟨C0, hX, hbl, hbA⟩ := C
  have C1 := C0
  obtain ⟨hx, hb, hr, hml, hown, hts, hlocks, hN, hK, hA⟩ := C1
  intro nr wd sg lw hg fr to sn pl kd tg sa sb bn mt pa ob tb fo rv ro tk ov sh tu rk cb rlo rhi rl rg tf kn tl th tv zn zm zj zf zr zw zs zfr zto zk zt za zb zq zl zv zo zu zov ztu zsh zle zmo zc zlo zhi hI H locs ls hP hD hS hl
  refine lv_aload_n hx hb dL_law_479 rfl (lv_at hl 2 rfl) ?_
  refine lv_aload_n hx hb dL_law_480 rfl (lv_at hl 1 rfl) ?_
  refine lv_iload_n hx hb dL_law_481 rfl (lv_at hl 0 rfl) ?_
  refine lv_iconst (v := (1 : Int32)) hx hb dL_law_482 (by decide) ?_
  refine lv_iadd hx hb dL_law_483 ?_
  refine va_sld hx hb hX hbl hbA hS h_1 dL_law_484 ?_
  refine lv_aload_n hx hb dL_law_485 rfl (lv_at hl 1 rfl) ?_
  refine lv_iload_n hx hb dL_law_486 rfl (lv_at hl 0 rfl) ?_
  refine lv_iconst (v := (2 : Int32)) hx hb dL_law_487 (by decide) ?_
  refine lv_iadd hx hb dL_law_488 ?_
  refine va_sld hx hb hX hbl hbA hS h_2 dL_law_489 ?_
  obtain ⟨r, rk', cb', rlo', rhi', rl', rg', zj', zl', zle', zmo', zc', e1, e2, hI2⟩ := p_ends hI rlo rhi zj zl zle zmo zc (xs (Int32.toNatClampNeg (x3 + (1 : Int32)))) (xs (Int32.toNatClampNeg (x3 + (2 : Int32))))
  refine call_IW (r := r) C0 (run_VW C0 (rest := []) (kX7_ends l dC dI q cI cJ cZ nr wd sg lw hg fr to sn pl kd tg sa sb bn mt pa ob tb fo rv ro tk ov sh tu rk cb rlo rhi rl rg tf kn tl th tv (xs (Int32.toNatClampNeg (x3 + (1 : Int32)))) (xs (Int32.toNatClampNeg (x3 + (2 : Int32)))) _ e1 _) (cwV 2 hts lg_X7_ends rfl rfl rfl (by decide +kernel) ⟨by decide, by decide⟩) (sp_P1 hP) (sp_D1 hD) (ci := 7) (q0 := 0) rfl rfl rfl hl.1 rfl (Nat.le_of_ble_eq_true rfl) dL_law_490 ⟨by decide, by decide⟩) hP hD hS (fun H locs hP hD hS => ?_)
  have hP : va_P (dC, dI) vwCl ((wM z cI cJ cZ zn zm zj zf zr zw zs zfr zto zk zt za zb zq zl zv zo zu zov ztu zsh zle zmo zc zlo zhi) ++ (wC q cI cJ cZ nr wd sg lw hg fr to sn pl kd tg sa sb bn mt pa ob tb fo rv ro tk ov sh tu rk' cb' rlo' rhi' rl' rg' tf kn tl th tv)) H := hP
  have hD : va_D A ((wM z cI cJ cZ zn zm zj zf zr zw zs zfr zto zk zt za zb zq zl zv zo zu zov ztu zsh zle zmo zc zlo zhi) ++ (wC q cI cJ cZ nr wd sg lw hg fr to sn pl kd tg sa sb bn mt pa ob tb fo rv ro tk ov sh tu rk' cb' rlo' rhi' rl' rg' tf kn tl th tv)) := hD
  refine lv_aload_n hx hb dL_law_493 rfl (lv_at hl 3 rfl) ?_
  refine lv_aload_n hx hb dL_law_494 rfl (lv_at hl 1 rfl) ?_
  refine lv_iload_n hx hb dL_law_495 rfl (lv_at hl 0 rfl) ?_
  refine lv_iconst (v := (1 : Int32)) hx hb dL_law_496 (by decide) ?_
  refine lv_iadd hx hb dL_law_497 ?_
  refine va_sld hx hb hX hbl hbA hS h_1 dL_law_498 ?_
  refine lv_aload_n hx hb dL_law_499 rfl (lv_at hl 1 rfl) ?_
  refine lv_iload_n hx hb dL_law_500 rfl (lv_at hl 0 rfl) ?_
  refine lv_iconst (v := (2 : Int32)) hx hb dL_law_501 (by decide) ?_
  refine lv_iadd hx hb dL_law_502 ?_
  refine va_sld hx hb hX hbl hbA hS h_2 dL_law_503 ?_
  refine call_IW (r := r) C0 (run_VW C0 (rest := [.int r]) (kX8_ends_ l dC dI z cI cJ cZ zn zm zj zf zr zw zs zfr zto zk zt za zb zq zl zv zo zu zov ztu zsh zle zmo zc zlo zhi (xs (Int32.toNatClampNeg (x3 + (1 : Int32)))) (xs (Int32.toNatClampNeg (x3 + (2 : Int32)))) _ e2 _) (cwV 2 hts lg_X8_ends_ rfl rfl rfl (by decide +kernel) ⟨by decide, by decide⟩) (sp_P1 hP) (sp_D1 hD) (ci := 8) (q0 := 0) rfl rfl rfl hl.1 rfl (Nat.le_of_ble_eq_true rfl) dL_law_504 ⟨by decide, by decide⟩) hP hD hS (fun H locs hP hD hS => ?_)
  have hP : va_P (dC, dI) vwCl ((wC q cI cJ cZ nr wd sg lw hg fr to sn pl kd tg sa sb bn mt pa ob tb fo rv ro tk ov sh tu rk' cb' rlo' rhi' rl' rg' tf kn tl th tv) ++ (wM z cI cJ cZ zn zm zj' zf zr zw zs zfr zto zk zt za zb zq zl' zv zo zu zov ztu zsh zle' zmo' zc' zlo zhi)) H := hP
  have hD : va_D A ((wC q cI cJ cZ nr wd sg lw hg fr to sn pl kd tg sa sb bn mt pa ob tb fo rv ro tk ov sh tu rk' cb' rlo' rhi' rl' rg' tf kn tl th tv) ++ (wM z cI cJ cZ zn zm zj' zf zr zw zs zfr zto zk zt za zb zq zl' zv zo zu zov ztu zsh zle' zmo' zc' zlo zhi)) := hD
  refine lv_icmp_eq (tgt := 656) hx hb dL_law_507 (by decide) (fun _ => ?_) (fun c9 => absurd rfl c9)
  exact K nr wd sg lw hg fr to sn pl kd tg sa sb bn mt pa ob tb fo rv ro tk ov sh tu rk' cb' rlo' rhi' rl' rg' tf kn tl th tv zn zm zj' zf zr zw zs zfr zto zk zt za zb zq zl' zv zo zu zov ztu zsh zle' zmo' zc' zlo zhi hI2 _ _ _ hP hD hS hl
set_option maxHeartbeats 8000000 in
set_option maxRecDepth 100000 in
theorem lc_12 {p : Program} {l : Launch} {e : Env} {s : State} {m : MethodId} {b : Nat} {below : List Frame} {meth : Method} {c : Code} {A : Nat → Prop} {dC : Nat → ClassId} {dI : Nat → Nat → Nat} {q z : Nat → Nat} {cI cJ cZ : ClassId} {L : Nat} {xs : Nat → Int32} {x3 : Int32} (C : LawC p s m b meth c A (dC, dI) cI cJ cZ L xs) (h_1 : vp_in (x3 + (1 : Int32)) L) (h_2 : vp_in (x3 + (2 : Int32)) L) (h_3 : vp_in (x3 + (3 : Int32)) L) (h_4 : vp_in (x3 + (4 : Int32)) L) (K : LawK p l e s m b below meth c A (dC, dI) q z cI cJ cZ x3 656) : LawK p l e s m b below meth c A (dC, dI) q z cI cJ cZ x3 512 := by
  obtain ⟨C0, hX, hbl, hbA⟩ := C
  have C1 := C0
  obtain ⟨hx, hb, hr, hml, hown, hts, hlocks, hN, hK, hA⟩ := C1
  intro nr wd sg lw hg fr to sn pl kd tg sa sb bn mt pa ob tb fo rv ro tk ov sh tu rk cb rlo rhi rl rg tf kn tl th tv zn zm zj zf zr zw zs zfr zto zk zt za zb zq zl zv zo zu zov ztu zsh zle zmo zc zlo zhi hI H locs ls hP hD hS hl
  refine lv_aload_n hx hb dL_law_512 rfl (lv_at hl 2 rfl) ?_
  refine lv_aload_n hx hb dL_law_513 rfl (lv_at hl 1 rfl) ?_
  refine lv_iload_n hx hb dL_law_514 rfl (lv_at hl 0 rfl) ?_
  refine lv_iconst (v := (1 : Int32)) hx hb dL_law_515 (by decide) ?_
  refine lv_iadd hx hb dL_law_516 ?_
  refine va_sld hx hb hX hbl hbA hS h_1 dL_law_517 ?_
  obtain ⟨r, tf', kn', tl', th', tv', zj', zl', zv', zlo', zhi', e1, e2, hI2⟩ := p_need hI tv zj zl zv zlo zhi (xs (Int32.toNatClampNeg (x3 + (1 : Int32))))
  refine call_IW (r := r) C0 (run_VW C0 (rest := []) (kX7_need l dC dI q cI cJ cZ nr wd sg lw hg fr to sn pl kd tg sa sb bn mt pa ob tb fo rv ro tk ov sh tu rk cb rlo rhi rl rg tf kn tl th tv (xs (Int32.toNatClampNeg (x3 + (1 : Int32)))) _ e1 _) (cwV 1 hts lg_X7_need rfl rfl rfl (by decide +kernel) ⟨by decide, by decide⟩) (sp_P1 hP) (sp_D1 hD) (ci := 7) (q0 := 0) rfl rfl rfl hl.1 rfl (Nat.le_of_ble_eq_true rfl) dL_law_518 ⟨by decide, by decide⟩) hP hD hS (fun H locs hP hD hS => ?_)
  have hP : va_P (dC, dI) vwCl ((wM z cI cJ cZ zn zm zj zf zr zw zs zfr zto zk zt za zb zq zl zv zo zu zov ztu zsh zle zmo zc zlo zhi) ++ (wC q cI cJ cZ nr wd sg lw hg fr to sn pl kd tg sa sb bn mt pa ob tb fo rv ro tk ov sh tu rk cb rlo rhi rl rg tf' kn' tl' th' tv')) H := hP
  have hD : va_D A ((wM z cI cJ cZ zn zm zj zf zr zw zs zfr zto zk zt za zb zq zl zv zo zu zov ztu zsh zle zmo zc zlo zhi) ++ (wC q cI cJ cZ nr wd sg lw hg fr to sn pl kd tg sa sb bn mt pa ob tb fo rv ro tk ov sh tu rk cb rlo rhi rl rg tf' kn' tl' th' tv')) := hD
  refine lv_aload_n hx hb dL_law_521 rfl (lv_at hl 3 rfl) ?_
  refine lv_aload_n hx hb dL_law_522 rfl (lv_at hl 1 rfl) ?_
  refine lv_iload_n hx hb dL_law_523 rfl (lv_at hl 0 rfl) ?_
  refine lv_iconst (v := (1 : Int32)) hx hb dL_law_524 (by decide) ?_
  refine lv_iadd hx hb dL_law_525 ?_
  refine va_sld hx hb hX hbl hbA hS h_1 dL_law_526 ?_
  refine call_IW (r := r) C0 (run_VW C0 (rest := [.int r]) (kX8_need l dC dI z cI cJ cZ zn zm zj zf zr zw zs zfr zto zk zt za zb zq zl zv zo zu zov ztu zsh zle zmo zc zlo zhi (xs (Int32.toNatClampNeg (x3 + (1 : Int32)))) _ e2 _) (cwV 1 hts lg_X8_need rfl rfl rfl (by decide +kernel) ⟨by decide, by decide⟩) (sp_P1 hP) (sp_D1 hD) (ci := 8) (q0 := 0) rfl rfl rfl hl.1 rfl (Nat.le_of_ble_eq_true rfl) dL_law_527 ⟨by decide, by decide⟩) hP hD hS (fun H locs hP hD hS => ?_)
  have hP : va_P (dC, dI) vwCl ((wC q cI cJ cZ nr wd sg lw hg fr to sn pl kd tg sa sb bn mt pa ob tb fo rv ro tk ov sh tu rk cb rlo rhi rl rg tf' kn' tl' th' tv') ++ (wM z cI cJ cZ zn zm zj' zf zr zw zs zfr zto zk zt za zb zq zl' zv' zo zu zov ztu zsh zle zmo zc zlo' zhi')) H := hP
  have hD : va_D A ((wC q cI cJ cZ nr wd sg lw hg fr to sn pl kd tg sa sb bn mt pa ob tb fo rv ro tk ov sh tu rk cb rlo rhi rl rg tf' kn' tl' th' tv') ++ (wM z cI cJ cZ zn zm zj' zf zr zw zs zfr zto zk zt za zb zq zl' zv' zo zu zov ztu zsh zle zmo zc zlo' zhi')) := hD
  refine lv_icmp_eq (tgt := 656) hx hb dL_law_530 (by decide) (fun _ => ?_) (fun c9 => absurd rfl c9)
  exact K nr wd sg lw hg fr to sn pl kd tg sa sb bn mt pa ob tb fo rv ro tk ov sh tu rk cb rlo rhi rl rg tf' kn' tl' th' tv' zn zm zj' zf zr zw zs zfr zto zk zt za zb zq zl' zv' zo zu zov ztu zsh zle zmo zc zlo' zhi' hI2 _ _ _ hP hD hS hl
set_option maxHeartbeats 8000000 in
set_option maxRecDepth 100000 in
theorem lc_13 {p : Program} {l : Launch} {e : Env} {s : State} {m : MethodId} {b : Nat} {below : List Frame} {meth : Method} {c : Code} {A : Nat → Prop} {dC : Nat → ClassId} {dI : Nat → Nat → Nat} {q z : Nat → Nat} {cI cJ cZ : ClassId} {L : Nat} {xs : Nat → Int32} {x3 : Int32} (C : LawC p s m b meth c A (dC, dI) cI cJ cZ L xs) (h_1 : vp_in (x3 + (1 : Int32)) L) (h_2 : vp_in (x3 + (2 : Int32)) L) (h_3 : vp_in (x3 + (3 : Int32)) L) (h_4 : vp_in (x3 + (4 : Int32)) L) (K : LawK p l e s m b below meth c A (dC, dI) q z cI cJ cZ x3 656) : LawK p l e s m b below meth c A (dC, dI) q z cI cJ cZ x3 535 := by
  obtain ⟨C0, hX, hbl, hbA⟩ := C
  have C1 := C0
  obtain ⟨hx, hb, hr, hml, hown, hts, hlocks, hN, hK, hA⟩ := C1
  intro nr wd sg lw hg fr to sn pl kd tg sa sb bn mt pa ob tb fo rv ro tk ov sh tu rk cb rlo rhi rl rg tf kn tl th tv zn zm zj zf zr zw zs zfr zto zk zt za zb zq zl zv zo zu zov ztu zsh zle zmo zc zlo zhi hI H locs ls hP hD hS hl
  refine lv_aload_n hx hb dL_law_535 rfl (lv_at hl 2 rfl) ?_
  obtain ⟨r, tf', kn', tl', th', tv', zj', zl', zv', zlo', zhi', e1, e2, hI2⟩ := p_price hI tv zj zl zv zlo zhi
  refine call_IW (r := r) C0 (run_VW C0 (rest := []) (kX7_price l dC dI q cI cJ cZ nr wd sg lw hg fr to sn pl kd tg sa sb bn mt pa ob tb fo rv ro tk ov sh tu rk cb rlo rhi rl rg tf kn tl th tv  _ e1 _) (cwV 0 hts lg_X7_price rfl rfl rfl (by decide +kernel) ⟨by decide, by decide⟩) (sp_P1 hP) (sp_D1 hD) (ci := 7) (q0 := 0) rfl rfl rfl hl.1 rfl (Nat.le_of_ble_eq_true rfl) dL_law_536 ⟨by decide, by decide⟩) hP hD hS (fun H locs hP hD hS => ?_)
  have hP : va_P (dC, dI) vwCl ((wM z cI cJ cZ zn zm zj zf zr zw zs zfr zto zk zt za zb zq zl zv zo zu zov ztu zsh zle zmo zc zlo zhi) ++ (wC q cI cJ cZ nr wd sg lw hg fr to sn pl kd tg sa sb bn mt pa ob tb fo rv ro tk ov sh tu rk cb rlo rhi rl rg tf' kn' tl' th' tv')) H := hP
  have hD : va_D A ((wM z cI cJ cZ zn zm zj zf zr zw zs zfr zto zk zt za zb zq zl zv zo zu zov ztu zsh zle zmo zc zlo zhi) ++ (wC q cI cJ cZ nr wd sg lw hg fr to sn pl kd tg sa sb bn mt pa ob tb fo rv ro tk ov sh tu rk cb rlo rhi rl rg tf' kn' tl' th' tv')) := hD
  refine lv_aload_n hx hb dL_law_539 rfl (lv_at hl 3 rfl) ?_
  refine call_IW (r := r) C0 (run_VW C0 (rest := [.int r]) (kX8_price l dC dI z cI cJ cZ zn zm zj zf zr zw zs zfr zto zk zt za zb zq zl zv zo zu zov ztu zsh zle zmo zc zlo zhi  _ e2 _) (cwV 0 hts lg_X8_price rfl rfl rfl (by decide +kernel) ⟨by decide, by decide⟩) (sp_P1 hP) (sp_D1 hD) (ci := 8) (q0 := 0) rfl rfl rfl hl.1 rfl (Nat.le_of_ble_eq_true rfl) dL_law_540 ⟨by decide, by decide⟩) hP hD hS (fun H locs hP hD hS => ?_)
  have hP : va_P (dC, dI) vwCl ((wC q cI cJ cZ nr wd sg lw hg fr to sn pl kd tg sa sb bn mt pa ob tb fo rv ro tk ov sh tu rk cb rlo rhi rl rg tf' kn' tl' th' tv') ++ (wM z cI cJ cZ zn zm zj' zf zr zw zs zfr zto zk zt za zb zq zl' zv' zo zu zov ztu zsh zle zmo zc zlo' zhi')) H := hP
  have hD : va_D A ((wC q cI cJ cZ nr wd sg lw hg fr to sn pl kd tg sa sb bn mt pa ob tb fo rv ro tk ov sh tu rk cb rlo rhi rl rg tf' kn' tl' th' tv') ++ (wM z cI cJ cZ zn zm zj' zf zr zw zs zfr zto zk zt za zb zq zl' zv' zo zu zov ztu zsh zle zmo zc zlo' zhi')) := hD
  refine lv_icmp_eq (tgt := 656) hx hb dL_law_543 (by decide) (fun _ => ?_) (fun c9 => absurd rfl c9)
  exact K nr wd sg lw hg fr to sn pl kd tg sa sb bn mt pa ob tb fo rv ro tk ov sh tu rk cb rlo rhi rl rg tf' kn' tl' th' tv' zn zm zj' zf zr zw zs zfr zto zk zt za zb zq zl' zv' zo zu zov ztu zsh zle zmo zc zlo' zhi' hI2 _ _ _ hP hD hS hl
set_option maxHeartbeats 8000000 in
set_option maxRecDepth 100000 in
theorem lc_14 {p : Program} {l : Launch} {e : Env} {s : State} {m : MethodId} {b : Nat} {below : List Frame} {meth : Method} {c : Code} {A : Nat → Prop} {dC : Nat → ClassId} {dI : Nat → Nat → Nat} {q z : Nat → Nat} {cI cJ cZ : ClassId} {L : Nat} {xs : Nat → Int32} {x3 : Int32} (C : LawC p s m b meth c A (dC, dI) cI cJ cZ L xs) (h_1 : vp_in (x3 + (1 : Int32)) L) (h_2 : vp_in (x3 + (2 : Int32)) L) (h_3 : vp_in (x3 + (3 : Int32)) L) (h_4 : vp_in (x3 + (4 : Int32)) L) (K : LawK p l e s m b below meth c A (dC, dI) q z cI cJ cZ x3 656) : LawK p l e s m b below meth c A (dC, dI) q z cI cJ cZ x3 548 := by
  obtain ⟨C0, hX, hbl, hbA⟩ := C
  have C1 := C0
  obtain ⟨hx, hb, hr, hml, hown, hts, hlocks, hN, hK, hA⟩ := C1
  intro nr wd sg lw hg fr to sn pl kd tg sa sb bn mt pa ob tb fo rv ro tk ov sh tu rk cb rlo rhi rl rg tf kn tl th tv zn zm zj zf zr zw zs zfr zto zk zt za zb zq zl zv zo zu zov ztu zsh zle zmo zc zlo zhi hI H locs ls hP hD hS hl
  refine lv_aload_n hx hb dL_law_548 rfl (lv_at hl 2 rfl) ?_
  obtain ⟨r, wd', sg', lw', hg', tk', rk', tf', kn', tl', th', tv', zj', zw', zl', zv', zlo', zhi', e1, e2, hI2⟩ := p_mend hI tv zj zl zv zlo zhi
  refine call_IW (r := r) C0 (run_VW C0 (rest := []) (kX7_mend l dC dI q cI cJ cZ nr wd sg lw hg fr to sn pl kd tg sa sb bn mt pa ob tb fo rv ro tk ov sh tu rk cb rlo rhi rl rg tf kn tl th tv  _ e1 _) (cwV 0 hts lg_X7_mend rfl rfl rfl (by decide +kernel) ⟨by decide, by decide⟩) (sp_P1 hP) (sp_D1 hD) (ci := 7) (q0 := 0) rfl rfl rfl hl.1 rfl (Nat.le_of_ble_eq_true rfl) dL_law_549 ⟨by decide, by decide⟩) hP hD hS (fun H locs hP hD hS => ?_)
  have hP : va_P (dC, dI) vwCl ((wM z cI cJ cZ zn zm zj zf zr zw zs zfr zto zk zt za zb zq zl zv zo zu zov ztu zsh zle zmo zc zlo zhi) ++ (wC q cI cJ cZ nr wd' sg' lw' hg' fr to sn pl kd tg sa sb bn mt pa ob tb fo rv ro tk' ov sh tu rk' cb rlo rhi rl rg tf' kn' tl' th' tv')) H := hP
  have hD : va_D A ((wM z cI cJ cZ zn zm zj zf zr zw zs zfr zto zk zt za zb zq zl zv zo zu zov ztu zsh zle zmo zc zlo zhi) ++ (wC q cI cJ cZ nr wd' sg' lw' hg' fr to sn pl kd tg sa sb bn mt pa ob tb fo rv ro tk' ov sh tu rk' cb rlo rhi rl rg tf' kn' tl' th' tv')) := hD
  refine lv_aload_n hx hb dL_law_552 rfl (lv_at hl 3 rfl) ?_
  refine call_IW (r := r) C0 (run_VW C0 (rest := [.int r]) (kX8_mend l dC dI z cI cJ cZ zn zm zj zf zr zw zs zfr zto zk zt za zb zq zl zv zo zu zov ztu zsh zle zmo zc zlo zhi  _ e2 _) (cwV 0 hts lg_X8_mend rfl rfl rfl (by decide +kernel) ⟨by decide, by decide⟩) (sp_P1 hP) (sp_D1 hD) (ci := 8) (q0 := 0) rfl rfl rfl hl.1 rfl (Nat.le_of_ble_eq_true rfl) dL_law_553 ⟨by decide, by decide⟩) hP hD hS (fun H locs hP hD hS => ?_)
  have hP : va_P (dC, dI) vwCl ((wC q cI cJ cZ nr wd' sg' lw' hg' fr to sn pl kd tg sa sb bn mt pa ob tb fo rv ro tk' ov sh tu rk' cb rlo rhi rl rg tf' kn' tl' th' tv') ++ (wM z cI cJ cZ zn zm zj' zf zr zw' zs zfr zto zk zt za zb zq zl' zv' zo zu zov ztu zsh zle zmo zc zlo' zhi')) H := hP
  have hD : va_D A ((wC q cI cJ cZ nr wd' sg' lw' hg' fr to sn pl kd tg sa sb bn mt pa ob tb fo rv ro tk' ov sh tu rk' cb rlo rhi rl rg tf' kn' tl' th' tv') ++ (wM z cI cJ cZ zn zm zj' zf zr zw' zs zfr zto zk zt za zb zq zl' zv' zo zu zov ztu zsh zle zmo zc zlo' zhi')) := hD
  refine lv_icmp_eq (tgt := 656) hx hb dL_law_556 (by decide) (fun _ => ?_) (fun c9 => absurd rfl c9)
  exact K nr wd' sg' lw' hg' fr to sn pl kd tg sa sb bn mt pa ob tb fo rv ro tk' ov sh tu rk' cb rlo rhi rl rg tf' kn' tl' th' tv' zn zm zj' zf zr zw' zs zfr zto zk zt za zb zq zl' zv' zo zu zov ztu zsh zle zmo zc zlo' zhi' hI2 _ _ _ hP hD hS hl
set_option maxHeartbeats 8000000 in
set_option maxRecDepth 100000 in
theorem lc_15 {p : Program} {l : Launch} {e : Env} {s : State} {m : MethodId} {b : Nat} {below : List Frame} {meth : Method} {c : Code} {A : Nat → Prop} {dC : Nat → ClassId} {dI : Nat → Nat → Nat} {q z : Nat → Nat} {cI cJ cZ : ClassId} {L : Nat} {xs : Nat → Int32} {x3 : Int32} (C : LawC p s m b meth c A (dC, dI) cI cJ cZ L xs) (h_1 : vp_in (x3 + (1 : Int32)) L) (h_2 : vp_in (x3 + (2 : Int32)) L) (h_3 : vp_in (x3 + (3 : Int32)) L) (h_4 : vp_in (x3 + (4 : Int32)) L) (K : LawK p l e s m b below meth c A (dC, dI) q z cI cJ cZ x3 656) : LawK p l e s m b below meth c A (dC, dI) q z cI cJ cZ x3 561 := by
  obtain ⟨C0, hX, hbl, hbA⟩ := C
  have C1 := C0
  obtain ⟨hx, hb, hr, hml, hown, hts, hlocks, hN, hK, hA⟩ := C1
  intro nr wd sg lw hg fr to sn pl kd tg sa sb bn mt pa ob tb fo rv ro tk ov sh tu rk cb rlo rhi rl rg tf kn tl th tv zn zm zj zf zr zw zs zfr zto zk zt za zb zq zl zv zo zu zov ztu zsh zle zmo zc zlo zhi hI H locs ls hP hD hS hl
  refine lv_aload_n hx hb dL_law_561 rfl (lv_at hl 2 rfl) ?_
  refine lv_aload_n hx hb dL_law_562 rfl (lv_at hl 1 rfl) ?_
  refine lv_iload_n hx hb dL_law_563 rfl (lv_at hl 0 rfl) ?_
  refine lv_iconst (v := (1 : Int32)) hx hb dL_law_564 (by decide) ?_
  refine lv_iadd hx hb dL_law_565 ?_
  refine va_sld hx hb hX hbl hbA hS h_1 dL_law_566 ?_
  refine lv_aload_n hx hb dL_law_567 rfl (lv_at hl 1 rfl) ?_
  refine lv_iload_n hx hb dL_law_568 rfl (lv_at hl 0 rfl) ?_
  refine lv_iconst (v := (2 : Int32)) hx hb dL_law_569 (by decide) ?_
  refine lv_iadd hx hb dL_law_570 ?_
  refine va_sld hx hb hX hbl hbA hS h_2 dL_law_571 ?_
  refine lv_if_eq (tgt := 579) hx hb dL_law_572 (by decide) (fun c_572 => ?_) (fun c_572 => ?_)
  · refine lv_iconst (v := (0 : Int32)) hx hb dL_law_579 (by decide) ?_
    obtain ⟨r, mt', zq', e1, e2, hI2⟩ := p_mean hI (xs (Int32.toNatClampNeg (x3 + (1 : Int32)))) (0 : Int32) (Or.inl rfl)
    refine call_IW (r := r) C0 (run_VW C0 (rest := []) (kX7_mean l dC dI q cI cJ cZ nr wd sg lw hg fr to sn pl kd tg sa sb bn mt pa ob tb fo rv ro tk ov sh tu rk cb rlo rhi rl rg tf kn tl th tv (xs (Int32.toNatClampNeg (x3 + (1 : Int32)))) (0 : Int32) _ e1 _) (cwV 2 hts lg_X7_mean rfl rfl rfl (by decide +kernel) ⟨by decide, by decide⟩) (sp_P1 hP) (sp_D1 hD) (ci := 7) (q0 := 0) rfl rfl rfl hl.1 rfl (Nat.le_of_ble_eq_true rfl) dL_law_580 ⟨by decide, by decide⟩) hP hD hS (fun H locs hP hD hS => ?_)
    have hP : va_P (dC, dI) vwCl ((wM z cI cJ cZ zn zm zj zf zr zw zs zfr zto zk zt za zb zq zl zv zo zu zov ztu zsh zle zmo zc zlo zhi) ++ (wC q cI cJ cZ nr wd sg lw hg fr to sn pl kd tg sa sb bn mt' pa ob tb fo rv ro tk ov sh tu rk cb rlo rhi rl rg tf kn tl th tv)) H := hP
    have hD : va_D A ((wM z cI cJ cZ zn zm zj zf zr zw zs zfr zto zk zt za zb zq zl zv zo zu zov ztu zsh zle zmo zc zlo zhi) ++ (wC q cI cJ cZ nr wd sg lw hg fr to sn pl kd tg sa sb bn mt' pa ob tb fo rv ro tk ov sh tu rk cb rlo rhi rl rg tf kn tl th tv)) := hD
    refine lv_aload_n hx hb dL_law_583 rfl (lv_at hl 3 rfl) ?_
    refine lv_aload_n hx hb dL_law_584 rfl (lv_at hl 1 rfl) ?_
    refine lv_iload_n hx hb dL_law_585 rfl (lv_at hl 0 rfl) ?_
    refine lv_iconst (v := (1 : Int32)) hx hb dL_law_586 (by decide) ?_
    refine lv_iadd hx hb dL_law_587 ?_
    refine va_sld hx hb hX hbl hbA hS h_1 dL_law_588 ?_
    refine lv_aload_n hx hb dL_law_589 rfl (lv_at hl 1 rfl) ?_
    refine lv_iload_n hx hb dL_law_590 rfl (lv_at hl 0 rfl) ?_
    refine lv_iconst (v := (2 : Int32)) hx hb dL_law_591 (by decide) ?_
    refine lv_iadd hx hb dL_law_592 ?_
    refine va_sld hx hb hX hbl hbA hS h_2 dL_law_593 ?_
    refine lv_if_eq (tgt := 601) hx hb dL_law_594 (by decide) (fun _ => ?_) (fun c9 => absurd c_572 c9)
    refine lv_iconst (v := (0 : Int32)) hx hb dL_law_601 (by decide) ?_
    refine call_IW (r := r) C0 (run_VW C0 (rest := [.int r]) (kX8_mean l dC dI z cI cJ cZ zn zm zj zf zr zw zs zfr zto zk zt za zb zq zl zv zo zu zov ztu zsh zle zmo zc zlo zhi (xs (Int32.toNatClampNeg (x3 + (1 : Int32)))) (0 : Int32) _ e2 _) (cwV 2 hts lg_X8_mean rfl rfl rfl (by decide +kernel) ⟨by decide, by decide⟩) (sp_P1 hP) (sp_D1 hD) (ci := 8) (q0 := 0) rfl rfl rfl hl.1 rfl (Nat.le_of_ble_eq_true rfl) dL_law_602 ⟨by decide, by decide⟩) hP hD hS (fun H locs hP hD hS => ?_)
    have hP : va_P (dC, dI) vwCl ((wC q cI cJ cZ nr wd sg lw hg fr to sn pl kd tg sa sb bn mt' pa ob tb fo rv ro tk ov sh tu rk cb rlo rhi rl rg tf kn tl th tv) ++ (wM z cI cJ cZ zn zm zj zf zr zw zs zfr zto zk zt za zb zq' zl zv zo zu zov ztu zsh zle zmo zc zlo zhi)) H := hP
    have hD : va_D A ((wC q cI cJ cZ nr wd sg lw hg fr to sn pl kd tg sa sb bn mt' pa ob tb fo rv ro tk ov sh tu rk cb rlo rhi rl rg tf kn tl th tv) ++ (wM z cI cJ cZ zn zm zj zf zr zw zs zfr zto zk zt za zb zq' zl zv zo zu zov ztu zsh zle zmo zc zlo zhi)) := hD
    refine lv_icmp_eq (tgt := 656) hx hb dL_law_605 (by decide) (fun _ => ?_) (fun c9 => absurd rfl c9)
    exact K nr wd sg lw hg fr to sn pl kd tg sa sb bn mt' pa ob tb fo rv ro tk ov sh tu rk cb rlo rhi rl rg tf kn tl th tv zn zm zj zf zr zw zs zfr zto zk zt za zb zq' zl zv zo zu zov ztu zsh zle zmo zc zlo zhi hI2 _ _ _ hP hD hS hl
  · refine lv_iconst (v := (1 : Int32)) hx hb dL_law_575 (by decide) ?_
    refine lv_goto (tgt := 580) hx hb dL_law_576 (by decide) ?_
    obtain ⟨r, mt', zq', e1, e2, hI2⟩ := p_mean hI (xs (Int32.toNatClampNeg (x3 + (1 : Int32)))) (1 : Int32) (Or.inr rfl)
    refine call_IW (r := r) C0 (run_VW C0 (rest := []) (kX7_mean l dC dI q cI cJ cZ nr wd sg lw hg fr to sn pl kd tg sa sb bn mt pa ob tb fo rv ro tk ov sh tu rk cb rlo rhi rl rg tf kn tl th tv (xs (Int32.toNatClampNeg (x3 + (1 : Int32)))) (1 : Int32) _ e1 _) (cwV 2 hts lg_X7_mean rfl rfl rfl (by decide +kernel) ⟨by decide, by decide⟩) (sp_P1 hP) (sp_D1 hD) (ci := 7) (q0 := 0) rfl rfl rfl hl.1 rfl (Nat.le_of_ble_eq_true rfl) dL_law_580 ⟨by decide, by decide⟩) hP hD hS (fun H locs hP hD hS => ?_)
    have hP : va_P (dC, dI) vwCl ((wM z cI cJ cZ zn zm zj zf zr zw zs zfr zto zk zt za zb zq zl zv zo zu zov ztu zsh zle zmo zc zlo zhi) ++ (wC q cI cJ cZ nr wd sg lw hg fr to sn pl kd tg sa sb bn mt' pa ob tb fo rv ro tk ov sh tu rk cb rlo rhi rl rg tf kn tl th tv)) H := hP
    have hD : va_D A ((wM z cI cJ cZ zn zm zj zf zr zw zs zfr zto zk zt za zb zq zl zv zo zu zov ztu zsh zle zmo zc zlo zhi) ++ (wC q cI cJ cZ nr wd sg lw hg fr to sn pl kd tg sa sb bn mt' pa ob tb fo rv ro tk ov sh tu rk cb rlo rhi rl rg tf kn tl th tv)) := hD
    refine lv_aload_n hx hb dL_law_583 rfl (lv_at hl 3 rfl) ?_
    refine lv_aload_n hx hb dL_law_584 rfl (lv_at hl 1 rfl) ?_
    refine lv_iload_n hx hb dL_law_585 rfl (lv_at hl 0 rfl) ?_
    refine lv_iconst (v := (1 : Int32)) hx hb dL_law_586 (by decide) ?_
    refine lv_iadd hx hb dL_law_587 ?_
    refine va_sld hx hb hX hbl hbA hS h_1 dL_law_588 ?_
    refine lv_aload_n hx hb dL_law_589 rfl (lv_at hl 1 rfl) ?_
    refine lv_iload_n hx hb dL_law_590 rfl (lv_at hl 0 rfl) ?_
    refine lv_iconst (v := (2 : Int32)) hx hb dL_law_591 (by decide) ?_
    refine lv_iadd hx hb dL_law_592 ?_
    refine va_sld hx hb hX hbl hbA hS h_2 dL_law_593 ?_
    refine lv_if_eq (tgt := 601) hx hb dL_law_594 (by decide) (fun c9 => absurd c9 c_572) (fun _ => ?_)
    refine lv_iconst (v := (1 : Int32)) hx hb dL_law_597 (by decide) ?_
    refine lv_goto (tgt := 602) hx hb dL_law_598 (by decide) ?_
    refine call_IW (r := r) C0 (run_VW C0 (rest := [.int r]) (kX8_mean l dC dI z cI cJ cZ zn zm zj zf zr zw zs zfr zto zk zt za zb zq zl zv zo zu zov ztu zsh zle zmo zc zlo zhi (xs (Int32.toNatClampNeg (x3 + (1 : Int32)))) (1 : Int32) _ e2 _) (cwV 2 hts lg_X8_mean rfl rfl rfl (by decide +kernel) ⟨by decide, by decide⟩) (sp_P1 hP) (sp_D1 hD) (ci := 8) (q0 := 0) rfl rfl rfl hl.1 rfl (Nat.le_of_ble_eq_true rfl) dL_law_602 ⟨by decide, by decide⟩) hP hD hS (fun H locs hP hD hS => ?_)
    have hP : va_P (dC, dI) vwCl ((wC q cI cJ cZ nr wd sg lw hg fr to sn pl kd tg sa sb bn mt' pa ob tb fo rv ro tk ov sh tu rk cb rlo rhi rl rg tf kn tl th tv) ++ (wM z cI cJ cZ zn zm zj zf zr zw zs zfr zto zk zt za zb zq' zl zv zo zu zov ztu zsh zle zmo zc zlo zhi)) H := hP
    have hD : va_D A ((wC q cI cJ cZ nr wd sg lw hg fr to sn pl kd tg sa sb bn mt' pa ob tb fo rv ro tk ov sh tu rk cb rlo rhi rl rg tf kn tl th tv) ++ (wM z cI cJ cZ zn zm zj zf zr zw zs zfr zto zk zt za zb zq' zl zv zo zu zov ztu zsh zle zmo zc zlo zhi)) := hD
    refine lv_icmp_eq (tgt := 656) hx hb dL_law_605 (by decide) (fun _ => ?_) (fun c9 => absurd rfl c9)
    exact K nr wd sg lw hg fr to sn pl kd tg sa sb bn mt' pa ob tb fo rv ro tk ov sh tu rk cb rlo rhi rl rg tf kn tl th tv zn zm zj zf zr zw zs zfr zto zk zt za zb zq' zl zv zo zu zov ztu zsh zle zmo zc zlo zhi hI2 _ _ _ hP hD hS hl
set_option maxHeartbeats 8000000 in
set_option maxRecDepth 100000 in
theorem lc_16 {p : Program} {l : Launch} {e : Env} {s : State} {m : MethodId} {b : Nat} {below : List Frame} {meth : Method} {c : Code} {A : Nat → Prop} {dC : Nat → ClassId} {dI : Nat → Nat → Nat} {q z : Nat → Nat} {cI cJ cZ : ClassId} {L : Nat} {xs : Nat → Int32} {x3 : Int32} (C : LawC p s m b meth c A (dC, dI) cI cJ cZ L xs) (h_1 : vp_in (x3 + (1 : Int32)) L) (h_2 : vp_in (x3 + (2 : Int32)) L) (h_3 : vp_in (x3 + (3 : Int32)) L) (h_4 : vp_in (x3 + (4 : Int32)) L) (K : LawK p l e s m b below meth c A (dC, dI) q z cI cJ cZ x3 656) : LawK p l e s m b below meth c A (dC, dI) q z cI cJ cZ x3 610 := by
  obtain ⟨C0, hX, hbl, hbA⟩ := C
  have C1 := C0
  obtain ⟨hx, hb, hr, hml, hown, hts, hlocks, hN, hK, hA⟩ := C1
  intro nr wd sg lw hg fr to sn pl kd tg sa sb bn mt pa ob tb fo rv ro tk ov sh tu rk cb rlo rhi rl rg tf kn tl th tv zn zm zj zf zr zw zs zfr zto zk zt za zb zq zl zv zo zu zov ztu zsh zle zmo zc zlo zhi hI H locs ls hP hD hS hl
  refine lv_aload_n hx hb dL_law_610 rfl (lv_at hl 2 rfl) ?_
  refine lv_aload_n hx hb dL_law_611 rfl (lv_at hl 1 rfl) ?_
  refine lv_iload_n hx hb dL_law_612 rfl (lv_at hl 0 rfl) ?_
  refine lv_iconst (v := (1 : Int32)) hx hb dL_law_613 (by decide) ?_
  refine lv_iadd hx hb dL_law_614 ?_
  refine va_sld hx hb hX hbl hbA hS h_1 dL_law_615 ?_
  obtain ⟨r, ob', tb', fo', rv', ro', tk', ov', sh', tu', rk', cb', rlo', rhi', rl', rg', zj', zf', zr', zl', zv', zo', zu', zov', ztu', zsh', zle', zmo', zc', e1, e2, hI2⟩ := p_listed hI ob tb fo rv rlo rhi zj zf zr zl zv zo zu zov ztu zsh zle zmo zc (xs (Int32.toNatClampNeg (x3 + (1 : Int32))))
  refine call_IW (r := r) C0 (run_VW C0 (rest := []) (kX7_listed l dC dI q cI cJ cZ nr wd sg lw hg fr to sn pl kd tg sa sb bn mt pa ob tb fo rv ro tk ov sh tu rk cb rlo rhi rl rg tf kn tl th tv (xs (Int32.toNatClampNeg (x3 + (1 : Int32)))) _ e1 _) (cwV 1 hts lg_X7_listed rfl rfl rfl (by decide +kernel) ⟨by decide, by decide⟩) (sp_P1 hP) (sp_D1 hD) (ci := 7) (q0 := 0) rfl rfl rfl hl.1 rfl (Nat.le_of_ble_eq_true rfl) dL_law_616 ⟨by decide, by decide⟩) hP hD hS (fun H locs hP hD hS => ?_)
  have hP : va_P (dC, dI) vwCl ((wM z cI cJ cZ zn zm zj zf zr zw zs zfr zto zk zt za zb zq zl zv zo zu zov ztu zsh zle zmo zc zlo zhi) ++ (wC q cI cJ cZ nr wd sg lw hg fr to sn pl kd tg sa sb bn mt pa ob' tb' fo' rv' ro' tk' ov' sh' tu' rk' cb' rlo' rhi' rl' rg' tf kn tl th tv)) H := hP
  have hD : va_D A ((wM z cI cJ cZ zn zm zj zf zr zw zs zfr zto zk zt za zb zq zl zv zo zu zov ztu zsh zle zmo zc zlo zhi) ++ (wC q cI cJ cZ nr wd sg lw hg fr to sn pl kd tg sa sb bn mt pa ob' tb' fo' rv' ro' tk' ov' sh' tu' rk' cb' rlo' rhi' rl' rg' tf kn tl th tv)) := hD
  refine lv_aload_n hx hb dL_law_619 rfl (lv_at hl 3 rfl) ?_
  refine lv_aload_n hx hb dL_law_620 rfl (lv_at hl 1 rfl) ?_
  refine lv_iload_n hx hb dL_law_621 rfl (lv_at hl 0 rfl) ?_
  refine lv_iconst (v := (1 : Int32)) hx hb dL_law_622 (by decide) ?_
  refine lv_iadd hx hb dL_law_623 ?_
  refine va_sld hx hb hX hbl hbA hS h_1 dL_law_624 ?_
  refine call_IW (r := r) C0 (run_VW C0 (rest := [.int r]) (kX8_listed l dC dI z cI cJ cZ zn zm zj zf zr zw zs zfr zto zk zt za zb zq zl zv zo zu zov ztu zsh zle zmo zc zlo zhi (xs (Int32.toNatClampNeg (x3 + (1 : Int32)))) _ e2 _) (cwV 1 hts lg_X8_listed rfl rfl rfl (by decide +kernel) ⟨by decide, by decide⟩) (sp_P1 hP) (sp_D1 hD) (ci := 8) (q0 := 0) rfl rfl rfl hl.1 rfl (Nat.le_of_ble_eq_true rfl) dL_law_625 ⟨by decide, by decide⟩) hP hD hS (fun H locs hP hD hS => ?_)
  have hP : va_P (dC, dI) vwCl ((wC q cI cJ cZ nr wd sg lw hg fr to sn pl kd tg sa sb bn mt pa ob' tb' fo' rv' ro' tk' ov' sh' tu' rk' cb' rlo' rhi' rl' rg' tf kn tl th tv) ++ (wM z cI cJ cZ zn zm zj' zf' zr' zw zs zfr zto zk zt za zb zq zl' zv' zo' zu' zov' ztu' zsh' zle' zmo' zc' zlo zhi)) H := hP
  have hD : va_D A ((wC q cI cJ cZ nr wd sg lw hg fr to sn pl kd tg sa sb bn mt pa ob' tb' fo' rv' ro' tk' ov' sh' tu' rk' cb' rlo' rhi' rl' rg' tf kn tl th tv) ++ (wM z cI cJ cZ zn zm zj' zf' zr' zw zs zfr zto zk zt za zb zq zl' zv' zo' zu' zov' ztu' zsh' zle' zmo' zc' zlo zhi)) := hD
  refine lv_icmp_eq (tgt := 656) hx hb dL_law_628 (by decide) (fun _ => ?_) (fun c9 => absurd rfl c9)
  exact K nr wd sg lw hg fr to sn pl kd tg sa sb bn mt pa ob' tb' fo' rv' ro' tk' ov' sh' tu' rk' cb' rlo' rhi' rl' rg' tf kn tl th tv zn zm zj' zf' zr' zw zs zfr zto zk zt za zb zq zl' zv' zo' zu' zov' ztu' zsh' zle' zmo' zc' zlo zhi hI2 _ _ _ hP hD hS hl
set_option maxHeartbeats 8000000 in
set_option maxRecDepth 100000 in
theorem lc_17 {p : Program} {l : Launch} {e : Env} {s : State} {m : MethodId} {b : Nat} {below : List Frame} {meth : Method} {c : Code} {A : Nat → Prop} {dC : Nat → ClassId} {dI : Nat → Nat → Nat} {q z : Nat → Nat} {cI cJ cZ : ClassId} {L : Nat} {xs : Nat → Int32} {x3 : Int32} (C : LawC p s m b meth c A (dC, dI) cI cJ cZ L xs) (h_1 : vp_in (x3 + (1 : Int32)) L) (h_2 : vp_in (x3 + (2 : Int32)) L) (h_3 : vp_in (x3 + (3 : Int32)) L) (h_4 : vp_in (x3 + (4 : Int32)) L) (K : LawK p l e s m b below meth c A (dC, dI) q z cI cJ cZ x3 656) : LawK p l e s m b below meth c A (dC, dI) q z cI cJ cZ x3 633 := by
  obtain ⟨C0, hX, hbl, hbA⟩ := C
  have C1 := C0
  obtain ⟨hx, hb, hr, hml, hown, hts, hlocks, hN, hK, hA⟩ := C1
  intro nr wd sg lw hg fr to sn pl kd tg sa sb bn mt pa ob tb fo rv ro tk ov sh tu rk cb rlo rhi rl rg tf kn tl th tv zn zm zj zf zr zw zs zfr zto zk zt za zb zq zl zv zo zu zov ztu zsh zle zmo zc zlo zhi hI H locs ls hP hD hS hl
  refine lv_aload_n hx hb dL_law_633 rfl (lv_at hl 2 rfl) ?_
  refine lv_aload_n hx hb dL_law_634 rfl (lv_at hl 1 rfl) ?_
  refine lv_iload_n hx hb dL_law_635 rfl (lv_at hl 0 rfl) ?_
  refine lv_iconst (v := (1 : Int32)) hx hb dL_law_636 (by decide) ?_
  refine lv_iadd hx hb dL_law_637 ?_
  refine va_sld hx hb hX hbl hbA hS h_1 dL_law_638 ?_
  obtain ⟨r, ob', tb', fo', rv', ro', tk', ov', sh', tu', zj', zf', zr', zl', zv', zo', zu', zov', ztu', zsh', e1, e2, hI2⟩ := p_count hI ob tb fo rv zj zf zr zl zv zo zu zov ztu zsh (xs (Int32.toNatClampNeg (x3 + (1 : Int32))))
  refine call_IW (r := r) C0 (run_VW C0 (rest := []) (kX7_count l dC dI q cI cJ cZ nr wd sg lw hg fr to sn pl kd tg sa sb bn mt pa ob tb fo rv ro tk ov sh tu rk cb rlo rhi rl rg tf kn tl th tv (xs (Int32.toNatClampNeg (x3 + (1 : Int32)))) _ e1 _) (cwV 1 hts lg_X7_count rfl rfl rfl (by decide +kernel) ⟨by decide, by decide⟩) (sp_P1 hP) (sp_D1 hD) (ci := 7) (q0 := 0) rfl rfl rfl hl.1 rfl (Nat.le_of_ble_eq_true rfl) dL_law_639 ⟨by decide, by decide⟩) hP hD hS (fun H locs hP hD hS => ?_)
  have hP : va_P (dC, dI) vwCl ((wM z cI cJ cZ zn zm zj zf zr zw zs zfr zto zk zt za zb zq zl zv zo zu zov ztu zsh zle zmo zc zlo zhi) ++ (wC q cI cJ cZ nr wd sg lw hg fr to sn pl kd tg sa sb bn mt pa ob' tb' fo' rv' ro' tk' ov' sh' tu' rk cb rlo rhi rl rg tf kn tl th tv)) H := hP
  have hD : va_D A ((wM z cI cJ cZ zn zm zj zf zr zw zs zfr zto zk zt za zb zq zl zv zo zu zov ztu zsh zle zmo zc zlo zhi) ++ (wC q cI cJ cZ nr wd sg lw hg fr to sn pl kd tg sa sb bn mt pa ob' tb' fo' rv' ro' tk' ov' sh' tu' rk cb rlo rhi rl rg tf kn tl th tv)) := hD
  refine lv_aload_n hx hb dL_law_642 rfl (lv_at hl 3 rfl) ?_
  refine lv_aload_n hx hb dL_law_643 rfl (lv_at hl 1 rfl) ?_
  refine lv_iload_n hx hb dL_law_644 rfl (lv_at hl 0 rfl) ?_
  refine lv_iconst (v := (1 : Int32)) hx hb dL_law_645 (by decide) ?_
  refine lv_iadd hx hb dL_law_646 ?_
  refine va_sld hx hb hX hbl hbA hS h_1 dL_law_647 ?_
  refine call_IW (r := r) C0 (run_VW C0 (rest := [.int r]) (kX8_count l dC dI z cI cJ cZ zn zm zj zf zr zw zs zfr zto zk zt za zb zq zl zv zo zu zov ztu zsh zle zmo zc zlo zhi (xs (Int32.toNatClampNeg (x3 + (1 : Int32)))) _ e2 _) (cwV 1 hts lg_X8_count rfl rfl rfl (by decide +kernel) ⟨by decide, by decide⟩) (sp_P1 hP) (sp_D1 hD) (ci := 8) (q0 := 0) rfl rfl rfl hl.1 rfl (Nat.le_of_ble_eq_true rfl) dL_law_648 ⟨by decide, by decide⟩) hP hD hS (fun H locs hP hD hS => ?_)
  have hP : va_P (dC, dI) vwCl ((wC q cI cJ cZ nr wd sg lw hg fr to sn pl kd tg sa sb bn mt pa ob' tb' fo' rv' ro' tk' ov' sh' tu' rk cb rlo rhi rl rg tf kn tl th tv) ++ (wM z cI cJ cZ zn zm zj' zf' zr' zw zs zfr zto zk zt za zb zq zl' zv' zo' zu' zov' ztu' zsh' zle zmo zc zlo zhi)) H := hP
  have hD : va_D A ((wC q cI cJ cZ nr wd sg lw hg fr to sn pl kd tg sa sb bn mt pa ob' tb' fo' rv' ro' tk' ov' sh' tu' rk cb rlo rhi rl rg tf kn tl th tv) ++ (wM z cI cJ cZ zn zm zj' zf' zr' zw zs zfr zto zk zt za zb zq zl' zv' zo' zu' zov' ztu' zsh' zle zmo zc zlo zhi)) := hD
  refine lv_icmp_eq (tgt := 656) hx hb dL_law_651 (by decide) (fun _ => ?_) (fun c9 => absurd rfl c9)
  exact K nr wd sg lw hg fr to sn pl kd tg sa sb bn mt pa ob' tb' fo' rv' ro' tk' ov' sh' tu' rk cb rlo rhi rl rg tf kn tl th tv zn zm zj' zf' zr' zw zs zfr zto zk zt za zb zq zl' zv' zo' zu' zov' ztu' zsh' zle zmo zc zlo zhi hI2 _ _ _ hP hD hS hl
