set_option maxHeartbeats 8000000 in
set_option maxRecDepth 100000 in
theorem law_loop {p : Program} {l : Launch} {e : Env} {s : State} {m : MethodId} {b : Nat} {below : List Frame} {meth : Method} {c : Code} {A : Nat → Prop} {dC : Nat → ClassId} {dI : Nat → Nat → Nat} {q z : Nat → Nat} {cI cJ cZ : ClassId} {L : Nat} {xs : Nat → Int32} (C : LawC p s m b meth c A (dC, dI) cI cJ cZ L xs) (hL : L ≤ 2560) (hAs : ∀ y : Nat, A y → s.heap.size ≤ y) : ∀ (n i : Nat), L + 5 - i < n → i ≤ 2560 → LawK p l e s m b below meth c A (dC, dI) q z cI cJ cZ (nI i) 18 := by
  intro n
  induction n with
  | zero => intro i h; exact absurd h (Nat.not_lt_zero _)
  | succ n ih =>
    intro i hn hi
    have C9 := C
    obtain ⟨C0, hX, hbl, hbA⟩ := C
    have C1 := C0
    obtain ⟨hx, hb, hr, hml, hown, hts, hlocks, hN, hK, hA⟩ := C1
    intro nr wd sg lw hg fr to sn pl kd tg sa sb bn mt pa ob tb fo rv ro tk ov sh tu rk cb rlo rhi rl rg tf kn tl th tv zn zm zj zf zr zw zs zfr zto zk zt za zb zq zl zv zo zu zov ztu zsh zle zmo zc zlo zhi hI H locs ls hP hD hS hl
    refine lv_iload_n hx hb dL_law_18 rfl (lv_at hl 0 rfl) ?_
    refine lv_aload_n hx hb dL_law_19 rfl (lv_at hl 1 rfl) ?_
    refine va_slen hx hb hX hbl hbA hS dL_law_20 ?_
    refine lv_iconst (v := (5 : Int32)) hx hb dL_law_21 (by decide) ?_
    refine lv_isub hx hb dL_law_22 ?_
    have eL : (Int32.ofNat L - (5 : Int32)).toInt = (L : Int) - 5 := by
      have h1 : (Int32.ofNat L).toInt = (L : Int) := nI_toInt (n := L) (by omega)
      have h5 : (5 : Int32).toInt = 5 := by decide
      rw [Kit.i32_sub (by rw [h1, h5]; omega) (by rw [h1, h5]; omega), h1, h5]
    have ei : (nI i).toInt = (i : Int) := nI_toInt (by omega)
    refine lv_icmp_gt (tgt := 662) hx hb dL_law_23 (by decide) (fun c_1 => ?_) (fun c_1 => ?_)
    · refine lv_iconst (v := (1 : Int32)) hx hb dL_law_662 (by decide) ?_
      refine va_forget (fun y hy => hAs _ (hS.2.2 y hy)) ?_
      exact lw_ret hx hb hr hlocks dL_law_663
    · have hlt : i + 5 ≤ L := by
        rw [Int32.lt_iff_toInt_lt, eL, ei] at c_1
        omega
      have h_0 : vp_in (nI i) L := vp_in_nI (by omega) (by omega)
      have h_1 : vp_in (nI i + (1 : Int32)) L := by rw [show nI i + (1 : Int32) = nI (i + 1) from nI_add i 1]; exact vp_in_nI (by omega) (by omega)
      have h_2 : vp_in (nI i + (2 : Int32)) L := by rw [show nI i + (2 : Int32) = nI (i + 2) from nI_add i 2]; exact vp_in_nI (by omega) (by omega)
      have h_3 : vp_in (nI i + (3 : Int32)) L := by rw [show nI i + (3 : Int32) = nI (i + 3) from nI_add i 3]; exact vp_in_nI (by omega) (by omega)
      have h_4 : vp_in (nI i + (4 : Int32)) L := by rw [show nI i + (4 : Int32) = nI (i + 4) from nI_add i 4]; exact vp_in_nI (by omega) (by omega)
      have K : LawK p l e s m b below meth c A (dC, dI) q z cI cJ cZ (nI i) 656 := by
        intro nr wd sg lw hg fr to sn pl kd tg sa sb bn mt pa ob tb fo rv ro tk ov sh tu rk cb rlo rhi rl rg tf kn tl th tv zn zm zj zf zr zw zs zfr zto zk zt za zb zq zl zv zo zu zov ztu zsh zle zmo zc zlo zhi hI H locs ls hP hD hS hl
        refine lv_iinc (v := nI (i + 5)) (lv' := [(3, .int (nI (i + 5))), (0, .ref b), (1, .ref (q 0)), (2, .ref (z 0))]) hx hb dL_law_656 hl (k := 0) rfl (nI_add i 5) (by decide) rfl (fun ls hl => ?_)
        refine lv_goto (tgt := 18) hx hb dL_law_659 (by decide) ?_
        exact ih (i + 5) (by omega) (by omega) nr wd sg lw hg fr to sn pl kd tg sa sb bn mt pa ob tb fo rv ro tk ov sh tu rk cb rlo rhi rl rg tf kn tl th tv zn zm zj zf zr zw zs zfr zto zk zt za zb zq zl zv zo zu zov ztu zsh zle zmo zc zlo zhi hI H locs ls hP hD hS hl
      refine lv_aload_n hx hb dL_law_26 rfl (lv_at hl 1 rfl) ?_
      refine lv_iload_n hx hb dL_law_27 rfl (lv_at hl 0 rfl) ?_
      refine va_sld hx hb hX hbl hbA hS h_0 dL_law_28 ?_
      refine lv_bipush (v := (31 : Int32)) hx hb dL_law_29 (by decide) ?_
      refine lv_iand hx hb dL_law_31 ?_
      generalize xs (Int32.toNatClampNeg (nI i)) &&& (31 : Int32) = x
      by_cases c_2 : x = (0 : Int32)
      · refine sw_tab (tgt := 120) hx hb dL_law_32 (by decide) (by rw [c_2]; decide) ?_
        exact lc_0 C9 h_1 h_2 h_3 h_4 K nr wd sg lw hg fr to sn pl kd tg sa sb bn mt pa ob tb fo rv ro tk ov sh tu rk cb rlo rhi rl rg tf kn tl th tv zn zm zj zf zr zw zs zfr zto zk zt za zb zq zl zv zo zu zov ztu zsh zle zmo zc zlo zhi hI H locs ls hP hD hS hl
      by_cases c_3 : x = (1 : Int32)
      · refine sw_tab (tgt := 179) hx hb dL_law_32 (by decide) (by rw [c_3]; decide) ?_
        exact lc_1 C9 h_1 h_2 h_3 h_4 K nr wd sg lw hg fr to sn pl kd tg sa sb bn mt pa ob tb fo rv ro tk ov sh tu rk cb rlo rhi rl rg tf kn tl th tv zn zm zj zf zr zw zs zfr zto zk zt za zb zq zl zv zo zu zov ztu zsh zle zmo zc zlo zhi hI H locs ls hP hD hS hl
      by_cases c_4 : x = (2 : Int32)
      · refine sw_tab (tgt := 222) hx hb dL_law_32 (by decide) (by rw [c_4]; decide) ?_
        exact lc_2 C9 h_1 h_2 h_3 h_4 K nr wd sg lw hg fr to sn pl kd tg sa sb bn mt pa ob tb fo rv ro tk ov sh tu rk cb rlo rhi rl rg tf kn tl th tv zn zm zj zf zr zw zs zfr zto zk zt za zb zq zl zv zo zu zov ztu zsh zle zmo zc zlo zhi hI H locs ls hP hD hS hl
      by_cases c_5 : x = (3 : Int32)
      · refine sw_tab (tgt := 275) hx hb dL_law_32 (by decide) (by rw [c_5]; decide) ?_
        exact lc_3 C9 h_1 h_2 h_3 h_4 K nr wd sg lw hg fr to sn pl kd tg sa sb bn mt pa ob tb fo rv ro tk ov sh tu rk cb rlo rhi rl rg tf kn tl th tv zn zm zj zf zr zw zs zfr zto zk zt za zb zq zl zv zo zu zov ztu zsh zle zmo zc zlo zhi hI H locs ls hP hD hS hl
      by_cases c_6 : x = (4 : Int32)
      · refine sw_tab (tgt := 288) hx hb dL_law_32 (by decide) (by rw [c_6]; decide) ?_
        exact lc_4 C9 h_1 h_2 h_3 h_4 K nr wd sg lw hg fr to sn pl kd tg sa sb bn mt pa ob tb fo rv ro tk ov sh tu rk cb rlo rhi rl rg tf kn tl th tv zn zm zj zf zr zw zs zfr zto zk zt za zb zq zl zv zo zu zov ztu zsh zle zmo zc zlo zhi hI H locs ls hP hD hS hl
      by_cases c_7 : x = (5 : Int32)
      · refine sw_tab (tgt := 311) hx hb dL_law_32 (by decide) (by rw [c_7]; decide) ?_
        exact lc_5 C9 h_1 h_2 h_3 h_4 K nr wd sg lw hg fr to sn pl kd tg sa sb bn mt pa ob tb fo rv ro tk ov sh tu rk cb rlo rhi rl rg tf kn tl th tv zn zm zj zf zr zw zs zfr zto zk zt za zb zq zl zv zo zu zov ztu zsh zle zmo zc zlo zhi hI H locs ls hP hD hS hl
      by_cases c_8 : x = (6 : Int32)
      · refine sw_tab (tgt := 354) hx hb dL_law_32 (by decide) (by rw [c_8]; decide) ?_
        exact lc_6 C9 h_1 h_2 h_3 h_4 K nr wd sg lw hg fr to sn pl kd tg sa sb bn mt pa ob tb fo rv ro tk ov sh tu rk cb rlo rhi rl rg tf kn tl th tv zn zm zj zf zr zw zs zfr zto zk zt za zb zq zl zv zo zu zov ztu zsh zle zmo zc zlo zhi hI H locs ls hP hD hS hl
      by_cases c_9 : x = (7 : Int32)
      · refine sw_tab (tgt := 387) hx hb dL_law_32 (by decide) (by rw [c_9]; decide) ?_
        exact lc_7 C9 h_1 h_2 h_3 h_4 K nr wd sg lw hg fr to sn pl kd tg sa sb bn mt pa ob tb fo rv ro tk ov sh tu rk cb rlo rhi rl rg tf kn tl th tv zn zm zj zf zr zw zs zfr zto zk zt za zb zq zl zv zo zu zov ztu zsh zle zmo zc zlo zhi hI H locs ls hP hD hS hl
      by_cases c_10 : x = (8 : Int32)
      · refine sw_tab (tgt := 410) hx hb dL_law_32 (by decide) (by rw [c_10]; decide) ?_
        exact lc_8 C9 h_1 h_2 h_3 h_4 K nr wd sg lw hg fr to sn pl kd tg sa sb bn mt pa ob tb fo rv ro tk ov sh tu rk cb rlo rhi rl rg tf kn tl th tv zn zm zj zf zr zw zs zfr zto zk zt za zb zq zl zv zo zu zov ztu zsh zle zmo zc zlo zhi hI H locs ls hP hD hS hl
      by_cases c_11 : x = (9 : Int32)
      · refine sw_tab (tgt := 433) hx hb dL_law_32 (by decide) (by rw [c_11]; decide) ?_
        exact lc_9 C9 h_1 h_2 h_3 h_4 K nr wd sg lw hg fr to sn pl kd tg sa sb bn mt pa ob tb fo rv ro tk ov sh tu rk cb rlo rhi rl rg tf kn tl th tv zn zm zj zf zr zw zs zfr zto zk zt za zb zq zl zv zo zu zov ztu zsh zle zmo zc zlo zhi hI H locs ls hP hD hS hl
      by_cases c_12 : x = (10 : Int32)
      · refine sw_tab (tgt := 456) hx hb dL_law_32 (by decide) (by rw [c_12]; decide) ?_
        exact lc_10 C9 h_1 h_2 h_3 h_4 K nr wd sg lw hg fr to sn pl kd tg sa sb bn mt pa ob tb fo rv ro tk ov sh tu rk cb rlo rhi rl rg tf kn tl th tv zn zm zj zf zr zw zs zfr zto zk zt za zb zq zl zv zo zu zov ztu zsh zle zmo zc zlo zhi hI H locs ls hP hD hS hl
      by_cases c_13 : x = (11 : Int32)
      · refine sw_tab (tgt := 479) hx hb dL_law_32 (by decide) (by rw [c_13]; decide) ?_
        exact lc_11 C9 h_1 h_2 h_3 h_4 K nr wd sg lw hg fr to sn pl kd tg sa sb bn mt pa ob tb fo rv ro tk ov sh tu rk cb rlo rhi rl rg tf kn tl th tv zn zm zj zf zr zw zs zfr zto zk zt za zb zq zl zv zo zu zov ztu zsh zle zmo zc zlo zhi hI H locs ls hP hD hS hl
      by_cases c_14 : x = (12 : Int32)
      · refine sw_tab (tgt := 512) hx hb dL_law_32 (by decide) (by rw [c_14]; decide) ?_
        exact lc_12 C9 h_1 h_2 h_3 h_4 K nr wd sg lw hg fr to sn pl kd tg sa sb bn mt pa ob tb fo rv ro tk ov sh tu rk cb rlo rhi rl rg tf kn tl th tv zn zm zj zf zr zw zs zfr zto zk zt za zb zq zl zv zo zu zov ztu zsh zle zmo zc zlo zhi hI H locs ls hP hD hS hl
      by_cases c_15 : x = (13 : Int32)
      · refine sw_tab (tgt := 535) hx hb dL_law_32 (by decide) (by rw [c_15]; decide) ?_
        exact lc_13 C9 h_1 h_2 h_3 h_4 K nr wd sg lw hg fr to sn pl kd tg sa sb bn mt pa ob tb fo rv ro tk ov sh tu rk cb rlo rhi rl rg tf kn tl th tv zn zm zj zf zr zw zs zfr zto zk zt za zb zq zl zv zo zu zov ztu zsh zle zmo zc zlo zhi hI H locs ls hP hD hS hl
      by_cases c_16 : x = (14 : Int32)
      · refine sw_tab (tgt := 548) hx hb dL_law_32 (by decide) (by rw [c_16]; decide) ?_
        exact lc_14 C9 h_1 h_2 h_3 h_4 K nr wd sg lw hg fr to sn pl kd tg sa sb bn mt pa ob tb fo rv ro tk ov sh tu rk cb rlo rhi rl rg tf kn tl th tv zn zm zj zf zr zw zs zfr zto zk zt za zb zq zl zv zo zu zov ztu zsh zle zmo zc zlo zhi hI H locs ls hP hD hS hl
      by_cases c_17 : x = (15 : Int32)
      · refine sw_tab (tgt := 561) hx hb dL_law_32 (by decide) (by rw [c_17]; decide) ?_
        exact lc_15 C9 h_1 h_2 h_3 h_4 K nr wd sg lw hg fr to sn pl kd tg sa sb bn mt pa ob tb fo rv ro tk ov sh tu rk cb rlo rhi rl rg tf kn tl th tv zn zm zj zf zr zw zs zfr zto zk zt za zb zq zl zv zo zu zov ztu zsh zle zmo zc zlo zhi hI H locs ls hP hD hS hl
      by_cases c_18 : x = (16 : Int32)
      · refine sw_tab (tgt := 610) hx hb dL_law_32 (by decide) (by rw [c_18]; decide) ?_
        exact lc_16 C9 h_1 h_2 h_3 h_4 K nr wd sg lw hg fr to sn pl kd tg sa sb bn mt pa ob tb fo rv ro tk ov sh tu rk cb rlo rhi rl rg tf kn tl th tv zn zm zj zf zr zw zs zfr zto zk zt za zb zq zl zv zo zu zov ztu zsh zle zmo zc zlo zhi hI H locs ls hP hD hS hl
      by_cases c_19 : x = (17 : Int32)
      · refine sw_tab (tgt := 633) hx hb dL_law_32 (by decide) (by rw [c_19]; decide) ?_
        exact lc_17 C9 h_1 h_2 h_3 h_4 K nr wd sg lw hg fr to sn pl kd tg sa sb bn mt pa ob tb fo rv ro tk ov sh tu rk cb rlo rhi rl rg tf kn tl th tv zn zm zj zf zr zw zs zfr zto zk zt za zb zq zl zv zo zu zov ztu zsh zle zmo zc zlo zhi hI H locs ls hP hD hS hl
      have n_0 : ¬ Int32.toInt x = 0 := lv_neT (k := (0 : Int32)) c_2 (by decide)
      have n_1 : ¬ Int32.toInt x = 1 := lv_neT (k := (1 : Int32)) c_3 (by decide)
      have n_2 : ¬ Int32.toInt x = 2 := lv_neT (k := (2 : Int32)) c_4 (by decide)
      have n_3 : ¬ Int32.toInt x = 3 := lv_neT (k := (3 : Int32)) c_5 (by decide)
      have n_4 : ¬ Int32.toInt x = 4 := lv_neT (k := (4 : Int32)) c_6 (by decide)
      have n_5 : ¬ Int32.toInt x = 5 := lv_neT (k := (5 : Int32)) c_7 (by decide)
      have n_6 : ¬ Int32.toInt x = 6 := lv_neT (k := (6 : Int32)) c_8 (by decide)
      have n_7 : ¬ Int32.toInt x = 7 := lv_neT (k := (7 : Int32)) c_9 (by decide)
      have n_8 : ¬ Int32.toInt x = 8 := lv_neT (k := (8 : Int32)) c_10 (by decide)
      have n_9 : ¬ Int32.toInt x = 9 := lv_neT (k := (9 : Int32)) c_11 (by decide)
      have n_10 : ¬ Int32.toInt x = 10 := lv_neT (k := (10 : Int32)) c_12 (by decide)
      have n_11 : ¬ Int32.toInt x = 11 := lv_neT (k := (11 : Int32)) c_13 (by decide)
      have n_12 : ¬ Int32.toInt x = 12 := lv_neT (k := (12 : Int32)) c_14 (by decide)
      have n_13 : ¬ Int32.toInt x = 13 := lv_neT (k := (13 : Int32)) c_15 (by decide)
      have n_14 : ¬ Int32.toInt x = 14 := lv_neT (k := (14 : Int32)) c_16 (by decide)
      have n_15 : ¬ Int32.toInt x = 15 := lv_neT (k := (15 : Int32)) c_17 (by decide)
      have n_16 : ¬ Int32.toInt x = 16 := lv_neT (k := (16 : Int32)) c_18 (by decide)
      have n_17 : ¬ Int32.toInt x = 17 := lv_neT (k := (17 : Int32)) c_19 (by decide)
      refine sw_tab (tgt := 656) hx hb dL_law_32 (by decide) (by
        unfold swt
        split
        · decide
        · exfalso; omega) ?_
      exact K nr wd sg lw hg fr to sn pl kd tg sa sb bn mt pa ob tb fo rv ro tk ov sh tu rk cb rlo rhi rl rg tf kn tl th tv zn zm zj zf zr zw zs zfr zto zk zt za zb zq zl zv zo zu zov ztu zsh zle zmo zc zlo zhi hI H locs ls hP hD hS hl
