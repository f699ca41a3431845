/-! ### SumsOver.leastOf(IZ)J -/
def rmX7_leastOf : Room := { frames := 0, cells := 0, slots := 0, locals := 0 }
set_option maxHeartbeats 4000000 in
set_option maxRecDepth 100000 in
theorem kX7_leastOf (l : Launch) (D : va_G) (T : TyL) (W0 : va_W) (x0 : Int32) (x1 : Int32) (RES : Int64) (hres : mX7_leastOf x0 x1 = some RES) : CtL l yX7_leastOf wsX7_leastOf rmX7_leastOf D T W0 [.int x0, .int x1] RES W0 := by
  intro sz
  refine ct_entry (cc := cX7_leastOf) (maxL := 2) (ret := some .long) (own := RX7) (by decide) rfl rfl (Nat.le_of_ble_eq_true rfl) (ll := [(0, .int x0), (1, .int x1)]) rfl ?_
  intro p e s m args below meth c hsz C0 _ hP hD ls hl
  have C1 := C0
  obtain ⟨hx, hb, hr, hml, hown, hts, hlocks, hN, hK, hA⟩ := C1
  have hS : va_S (va_A W0 sz) s.heap s.heap [] := va_S.rf
  generalize va_A W0 sz = A at C0 hD hA hS ⊢
  show W p l e rmX7_leastOf s m args below meth c s.heap [] 0 0 (QL below args s A D T RES W0) (F0 m 0 ls [])
  unfold mX7_leastOf at hres
  refine lv_iload_n hx hb dX7_leastOf_0 rfl (lv_at hl 1 rfl) ?_
  refine lv_if_eq (tgt := 13) hx hb dX7_leastOf_1 (by decide) (fun c_1 => ?_) (fun c_1 => ?_)
  · replace hres := mi_p c_1 hres
    refine lv_lconst (v := (0 : Int64)) hx hb dX7_leastOf_13 (by decide) ?_
    obtain rfl := Option.some.inj hres
    exact ret_L (r := (0 : Int64)) C0 hP hD hS dX7_leastOf_14
  · replace hres := mi_n c_1 hres
    refine lv_lconst (v := (1 : Int64)) hx hb dX7_leastOf_4 (by decide) ?_
    refine lv_iload_n hx hb dX7_leastOf_5 rfl (lv_at hl 0 rfl) ?_
    refine lv_iconst (v := (1 : Int32)) hx hb dX7_leastOf_6 (by decide) ?_
    refine lv_isub hx hb dX7_leastOf_7 ?_
    refine lv_lshl (v := ((1 : Int64) <<< (((x0 - (1 : Int32))).toInt64 &&& 63))) hx hb dX7_leastOf_8 rfl ?_
    refine lv_lneg hx hb dX7_leastOf_9 ?_
    refine lv_goto (tgt := 14) hx hb dX7_leastOf_10 (by decide) ?_
    obtain rfl := Option.some.inj hres
    exact ret_L (r := (-((1 : Int64) <<< (((x0 - (1 : Int32))).toInt64 &&& 63)))) C0 hP hD hS dX7_leastOf_14
/-! ### SumsOver.greatestOf(IZ)J -/
def rmX7_greatestOf : Room := { frames := 0, cells := 0, slots := 0, locals := 0 }
set_option maxHeartbeats 4000000 in
set_option maxRecDepth 100000 in
theorem kX7_greatestOf (l : Launch) (D : va_G) (T : TyL) (W0 : va_W) (x0 : Int32) (x1 : Int32) (RES : Int64) (hres : mX7_greatestOf x0 x1 = some RES) : CtL l yX7_greatestOf wsX7_greatestOf rmX7_greatestOf D T W0 [.int x0, .int x1] RES W0 := by
  intro sz
  refine ct_entry (cc := cX7_greatestOf) (maxL := 2) (ret := some .long) (own := RX7) (by decide) rfl rfl (Nat.le_of_ble_eq_true rfl) (ll := [(0, .int x0), (1, .int x1)]) rfl ?_
  intro p e s m args below meth c hsz C0 _ hP hD ls hl
  have C1 := C0
  obtain ⟨hx, hb, hr, hml, hown, hts, hlocks, hN, hK, hA⟩ := C1
  have hS : va_S (va_A W0 sz) s.heap s.heap [] := va_S.rf
  generalize va_A W0 sz = A at C0 hD hA hS ⊢
  show W p l e rmX7_greatestOf s m args below meth c s.heap [] 0 0 (QL below args s A D T RES W0) (F0 m 0 ls [])
  unfold mX7_greatestOf at hres
  refine lv_lconst (v := (1 : Int64)) hx hb dX7_greatestOf_0 (by decide) ?_
  refine lv_iload_n hx hb dX7_greatestOf_1 rfl (lv_at hl 1 rfl) ?_
  refine lv_if_eq (tgt := 11) hx hb dX7_greatestOf_2 (by decide) (fun c_1 => ?_) (fun c_1 => ?_)
  · replace hres := mi_p c_1 hres
    refine lv_iload_n hx hb dX7_greatestOf_11 rfl (lv_at hl 0 rfl) ?_
    refine lv_lshl (v := ((1 : Int64) <<< ((x0).toInt64 &&& 63))) hx hb dX7_greatestOf_12 rfl ?_
    refine lv_lconst (v := (1 : Int64)) hx hb dX7_greatestOf_13 (by decide) ?_
    refine lv_lsub hx hb dX7_greatestOf_14 ?_
    obtain rfl := Option.some.inj hres
    exact ret_L (r := (((1 : Int64) <<< ((x0).toInt64 &&& 63)) - (1 : Int64))) C0 hP hD hS dX7_greatestOf_15
  · replace hres := mi_n c_1 hres
    refine lv_iload_n hx hb dX7_greatestOf_5 rfl (lv_at hl 0 rfl) ?_
    refine lv_iconst (v := (1 : Int32)) hx hb dX7_greatestOf_6 (by decide) ?_
    refine lv_isub hx hb dX7_greatestOf_7 ?_
    refine lv_goto (tgt := 12) hx hb dX7_greatestOf_8 (by decide) ?_
    refine lv_lshl (v := ((1 : Int64) <<< (((x0 - (1 : Int32))).toInt64 &&& 63))) hx hb dX7_greatestOf_12 rfl ?_
    refine lv_lconst (v := (1 : Int64)) hx hb dX7_greatestOf_13 (by decide) ?_
    refine lv_lsub hx hb dX7_greatestOf_14 ?_
    obtain rfl := Option.some.inj hres
    exact ret_L (r := (((1 : Int64) <<< (((x0 - (1 : Int32))).toInt64 &&& 63)) - (1 : Int64))) C0 hP hD hS dX7_greatestOf_15
/-! ### SumsOver$Names.rest(JI)J -/
def rmX1_rest : Room := { frames := 0, cells := 0, slots := 0, locals := 0 }
set_option maxHeartbeats 4000000 in
set_option maxRecDepth 100000 in
theorem kX1_rest (l : Launch) (D : va_G) (T : TyL) (W0 : va_W) (x0 : Int64) (x2 : Int32) (RES : Int64) (hres : mX1_rest x0 x2 = some RES) : CtL l yX1_rest wsX1_rest rmX1_rest D T W0 [.long x0, .int x2] RES W0 := by
  intro sz
  refine ct_entry (cc := cX1_rest) (maxL := 3) (ret := some .long) (own := RX1) (by decide) rfl rfl (Nat.le_of_ble_eq_true rfl) (ll := [(0, .long x0), (2, .int x2)]) rfl ?_
  intro p e s m args below meth c hsz C0 _ hP hD ls hl
  have C1 := C0
  obtain ⟨hx, hb, hr, hml, hown, hts, hlocks, hN, hK, hA⟩ := C1
  have hS : va_S (va_A W0 sz) s.heap s.heap [] := va_S.rf
  generalize va_A W0 sz = A at C0 hD hA hS ⊢
  show W p l e rmX1_rest s m args below meth c s.heap [] 0 0 (QL below args s A D T RES W0) (F0 m 0 ls [])
  unfold mX1_rest at hres
  refine lv_lload_n hx hb dX1_rest_0 rfl (lv_at hl 0 rfl) ?_
  refine lv_lconst (v := (1 : Int64)) hx hb dX1_rest_1 (by decide) ?_
  refine lv_iload_n hx hb dX1_rest_2 rfl (lv_at hl 1 rfl) ?_
  refine lv_lshl (v := ((1 : Int64) <<< ((x2).toInt64 &&& 63))) hx hb dX1_rest_3 rfl ?_
  refine lv_lconst (v := (1 : Int64)) hx hb dX1_rest_4 (by decide) ?_
  refine lv_lsub hx hb dX1_rest_5 ?_
  refine lv_land hx hb dX1_rest_6 ?_
  obtain rfl := Option.some.inj hres
  exact ret_L (r := (x0 &&& (((1 : Int64) <<< ((x2).toInt64 &&& 63)) - (1 : Int64)))) C0 hP hD hS dX1_rest_7
/-! ### SumsOver.made(IJJ)J -/
theorem mwX7_made_0 : (.methodLink RX7 211 Lib.MathLoose.min_long.x : Cond) ∈ wsX7_made := by decide +kernel
theorem mwX7_made_1 : (.static Lib.MathLoose.min_long.x : Cond) ∈ wsX7_made := by decide +kernel
theorem mwX7_made_2 : (.initialized "java/lang/Math" : Cond) ∈ wsX7_made := by decide +kernel
theorem mwX7_made_3 : (.code Lib.MathLoose.min_long.x Lib.MathLoose.min_long.code 4 (some .long) : Cond) ∈ wsX7_made := by decide +kernel
def rmX7_made : Room := { frames := 1, cells := 0, slots := 0, locals := 23 }
set_option maxHeartbeats 4000000 in
set_option maxRecDepth 100000 in
theorem kX7_made (l : Launch) (D : va_G) (T : TyL) (W0 : va_W) (x0 : Int32) (x1 : Int64) (x3 : Int64) (RES : Int64) (hres : mX7_made x0 x1 x3 = some RES) : CtL l yX7_made wsX7_made rmX7_made D T W0 [.int x0, .long x1, .long x3] RES W0 := by
  intro sz
  refine ct_entry (cc := cX7_made) (maxL := 5) (ret := some .long) (own := RX7) (by decide) rfl rfl (Nat.le_of_ble_eq_true rfl) (ll := [(0, .int x0), (1, .long x1), (3, .long x3)]) rfl ?_
  intro p e s m args below meth c hsz C0 _ hP hD ls hl
  have C1 := C0
  obtain ⟨hx, hb, hr, hml, hown, hts, hlocks, hN, hK, hA⟩ := C1
  have hS : va_S (va_A W0 sz) s.heap s.heap [] := va_S.rf
  generalize va_A W0 sz = A at C0 hD hA hS ⊢
  show W p l e rmX7_made s m args below meth c s.heap [] 0 0 (QL below args s A D T RES W0) (F0 m 0 ls [])
  unfold mX7_made at hres
  refine lv_iload_n hx hb dX7_made_0 rfl (lv_at hl 0 rfl) ?_
  by_cases c_1 : x0 = (0 : Int32)
  · replace hres := mi_p c_1 hres
    refine sw_tab (tgt := 44) hx hb dX7_made_1 (by decide) (by have h9 := c_1 <;> (rw [h9]; decide)) ?_
    refine lv_lload_n hx hb dX7_made_44 rfl (lv_at hl 2 rfl) ?_
    obtain rfl := Option.some.inj hres
    exact ret_L (r := x3) C0 hP hD hS dX7_made_45
  · replace hres := mi_n c_1 hres
    by_cases c_2 : x0 = (1 : Int32)
    · replace hres := mi_p c_2 hres
      refine sw_tab (tgt := 46) hx hb dX7_made_1 (by decide) (by have h9 := c_2 <;> (rw [h9]; decide)) ?_
      refine lv_lload_n hx hb dX7_made_46 rfl (lv_at hl 1 rfl) ?_
      obtain rfl := Option.some.inj hres
      exact ret_L (r := x1) C0 hP hD hS dX7_made_47
    · replace hres := mi_n c_2 hres
      by_cases c_3 : x0 = (2 : Int32)
      · replace hres := mi_p c_3 hres
        refine sw_tab (tgt := 48) hx hb dX7_made_1 (by decide) (by have h9 := c_3 <;> (rw [h9]; decide)) ?_
        refine lv_lload_n hx hb dX7_made_48 rfl (lv_at hl 1 rfl) ?_
        refine lv_lload_n hx hb dX7_made_49 rfl (lv_at hl 2 rfl) ?_
        refine lv_ladd hx hb dX7_made_50 ?_
        obtain rfl := Option.some.inj hres
        exact ret_L (r := (x1 + x3)) C0 hP hD hS dX7_made_51
      · replace hres := mi_n c_3 hres
        by_cases c_4 : x0 = (3 : Int32)
        · replace hres := mi_p c_4 hres
          refine sw_tab (tgt := 52) hx hb dX7_made_1 (by decide) (by have h9 := c_4 <;> (rw [h9]; decide)) ?_
          refine lv_lload_n hx hb dX7_made_52 rfl (lv_at hl 1 rfl) ?_
          refine lv_lload_n hx hb dX7_made_53 rfl (lv_at hl 2 rfl) ?_
          refine lv_lsub hx hb dX7_made_54 ?_
          obtain rfl := Option.some.inj hres
          exact ret_L (r := (x1 - x3)) C0 hP hD hS dX7_made_55
        · replace hres := mi_n c_4 hres
          by_cases c_5 : x0 = (4 : Int32)
          · replace hres := mi_p c_5 hres
            refine sw_tab (tgt := 56) hx hb dX7_made_1 (by decide) (by have h9 := c_5 <;> (rw [h9]; decide)) ?_
            refine lv_lload_n hx hb dX7_made_56 rfl (lv_at hl 1 rfl) ?_
            refine lv_lload_n hx hb dX7_made_57 rfl (lv_at hl 2 rfl) ?_
            refine lv_lmul hx hb dX7_made_58 ?_
            obtain rfl := Option.some.inj hres
            exact ret_L (r := (x1 * x3)) C0 hP hD hS dX7_made_59
          · replace hres := mi_n c_5 hres
            by_cases c_6 : x0 = (5 : Int32)
            · replace hres := mi_p c_6 hres
              refine sw_tab (tgt := 60) hx hb dX7_made_1 (by decide) (by have h9 := c_6 <;> (rw [h9]; decide)) ?_
              refine lv_lload_n hx hb dX7_made_60 rfl (lv_at hl 1 rfl) ?_
              refine lv_lload_n hx hb dX7_made_61 rfl (lv_at hl 2 rfl) ?_
              refine lv_l2i (v := (x3).toInt32) hx hb dX7_made_62 rfl ?_
              refine lv_lshl (v := (x1 <<< ((((x3).toInt32)).toInt64 &&& 63))) hx hb dX7_made_63 rfl ?_
              obtain rfl := Option.some.inj hres
              exact ret_L (r := (x1 <<< ((((x3).toInt32)).toInt64 &&& 63))) C0 hP hD hS dX7_made_64
            · replace hres := mi_n c_6 hres
              by_cases c_7 : x0 = (6 : Int32)
              · replace hres := mi_p c_7 hres
                refine sw_tab (tgt := 65) hx hb dX7_made_1 (by decide) (by have h9 := c_7 <;> (rw [h9]; decide)) ?_
                refine lv_lload_n hx hb dX7_made_65 rfl (lv_at hl 1 rfl) ?_
                refine lv_lload_n hx hb dX7_made_66 rfl (lv_at hl 2 rfl) ?_
                refine va_mmin_long hx hb (hml.trans hl.1.symm) hown (hts _ mwX7_made_0) (hts _ mwX7_made_1) (hts _ mwX7_made_2) (hts _ mwX7_made_3) (Nat.le_of_ble_eq_true rfl) (Nat.le_of_ble_eq_true rfl) (Nat.zero_le _) (Nat.zero_le _) dX7_made_67 ?_
                obtain rfl := Option.some.inj hres
                exact ret_L (r := (if x3 < x1 then x3 else x1)) C0 hP hD hS dX7_made_70
              · replace hres := mi_n c_7 hres
                refine sw_tab (tgt := 71) hx hb dX7_made_1 (by decide) (by
                  have n_0 : ¬ Int32.toInt x0 = 0 := lv_neT (k := (0 : Int32)) (fun h9 => c_1 (h9)) (by decide)
                  have n_1 : ¬ Int32.toInt x0 = 1 := lv_neT (k := (1 : Int32)) (fun h9 => c_2 (h9)) (by decide)
                  have n_2 : ¬ Int32.toInt x0 = 2 := lv_neT (k := (2 : Int32)) (fun h9 => c_3 (h9)) (by decide)
                  have n_3 : ¬ Int32.toInt x0 = 3 := lv_neT (k := (3 : Int32)) (fun h9 => c_4 (h9)) (by decide)
                  have n_4 : ¬ Int32.toInt x0 = 4 := lv_neT (k := (4 : Int32)) (fun h9 => c_5 (h9)) (by decide)
                  have n_5 : ¬ Int32.toInt x0 = 5 := lv_neT (k := (5 : Int32)) (fun h9 => c_6 (h9)) (by decide)
                  have n_6 : ¬ Int32.toInt x0 = 6 := lv_neT (k := (6 : Int32)) (fun h9 => c_7 (h9)) (by decide)
                  unfold swt
                  split
                  · decide
                  · exfalso; omega) ?_
                refine lv_lload_n hx hb dX7_made_71 rfl (lv_at hl 1 rfl) ?_
                refine lv_lload_n hx hb dX7_made_72 rfl (lv_at hl 2 rfl) ?_
                refine W.lcmp hx hb dX7_made_73 ?_
                refine lv_if_ge (tgt := 81) hx hb dX7_made_74 (by decide) (fun c_8 => ?_) (fun c_8 => ?_)
                · rw [lg_cmp_ge] at c_8
                  replace hres := mi_p c_8 hres
                  refine lv_lconst (v := (0 : Int64)) hx hb dX7_made_81 (by decide) ?_
                  obtain rfl := Option.some.inj hres
                  exact ret_L (r := (0 : Int64)) C0 hP hD hS dX7_made_82
                · rw [lg_cmp_ge] at c_8
                  replace hres := mi_n c_8 hres
                  refine lv_lconst (v := (1 : Int64)) hx hb dX7_made_77 (by decide) ?_
                  refine lv_goto (tgt := 82) hx hb dX7_made_78 (by decide) ?_
                  obtain rfl := Option.some.inj hres
                  exact ret_L (r := (1 : Int64)) C0 hP hD hS dX7_made_82
/-! ### SumsOver.hasTarget(I)Z -/
def rmX7_hasTarget : Room := { frames := 0, cells := 0, slots := 0, locals := 0 }
set_option maxHeartbeats 4000000 in
set_option maxRecDepth 100000 in
theorem kX7_hasTarget (l : Launch) (D : va_G) (T : TyL) (W0 : va_W) (x0 : Int32) (RES : Int32) (hres : mX7_hasTarget x0 = some RES) : CtI l yX7_hasTarget wsX7_hasTarget rmX7_hasTarget D T W0 [.int x0] RES W0 := by
  intro sz
  refine ct_entry (cc := cX7_hasTarget) (maxL := 1) (ret := some .boolean) (own := RX7) (by decide) rfl rfl (Nat.le_of_ble_eq_true rfl) (ll := [(0, .int x0)]) rfl ?_
  intro p e s m args below meth c hsz C0 _ hP hD ls hl
  have C1 := C0
  obtain ⟨hx, hb, hr, hml, hown, hts, hlocks, hN, hK, hA⟩ := C1
  have hS : va_S (va_A W0 sz) s.heap s.heap [] := va_S.rf
  generalize va_A W0 sz = A at C0 hD hA hS ⊢
  show W p l e rmX7_hasTarget s m args below meth c s.heap [] 0 0 (QI below args s A D T RES W0) (F0 m 0 ls [])
  unfold mX7_hasTarget at hres
  refine lv_iload_n hx hb dX7_hasTarget_0 rfl (lv_at hl 0 rfl) ?_
  refine lv_if_lt (tgt := 14) hx hb dX7_hasTarget_1 (by decide) (fun c_1 => ?_) (fun c_1 => ?_)
  · replace hres := mi_p c_1 hres
    refine lv_iconst (v := (0 : Int32)) hx hb dX7_hasTarget_14 (by decide) ?_
    obtain rfl := Option.some.inj hres
    exact ret_I (r := (0 : Int32)) C0 rfl hP hD hS dX7_hasTarget_15
  · replace hres := mi_n c_1 hres
    refine lv_iload_n hx hb dX7_hasTarget_4 rfl (lv_at hl 0 rfl) ?_
    refine lv_bipush (v := (7 : Int32)) hx hb dX7_hasTarget_5 (by decide) ?_
    refine lv_icmp_gt (tgt := 14) hx hb dX7_hasTarget_7 (by decide) (fun c_2 => ?_) (fun c_2 => ?_)
    · replace hres := mi_p c_2 hres
      refine lv_iconst (v := (0 : Int32)) hx hb dX7_hasTarget_14 (by decide) ?_
      obtain rfl := Option.some.inj hres
      exact ret_I (r := (0 : Int32)) C0 rfl hP hD hS dX7_hasTarget_15
    · replace hres := mi_n c_2 hres
      refine lv_iconst (v := (1 : Int32)) hx hb dX7_hasTarget_10 (by decide) ?_
      refine lv_goto (tgt := 15) hx hb dX7_hasTarget_11 (by decide) ?_
      obtain rfl := Option.some.inj hres
      exact ret_I (r := (1 : Int32)) C0 rfl hP hD hS dX7_hasTarget_15
/-! ### SumsOver.readsA(I)Z -/
def rmX7_readsA : Room := { frames := 0, cells := 0, slots := 0, locals := 0 }
set_option maxHeartbeats 4000000 in
set_option maxRecDepth 100000 in
theorem kX7_readsA (l : Launch) (D : va_G) (T : TyL) (W0 : va_W) (x0 : Int32) (RES : Int32) (hres : mX7_readsA x0 = some RES) : CtI l yX7_readsA wsX7_readsA rmX7_readsA D T W0 [.int x0] RES W0 := by
  intro sz
  refine ct_entry (cc := cX7_readsA) (maxL := 1) (ret := some .boolean) (own := RX7) (by decide) rfl rfl (Nat.le_of_ble_eq_true rfl) (ll := [(0, .int x0)]) rfl ?_
  intro p e s m args below meth c hsz C0 _ hP hD ls hl
  have C1 := C0
  obtain ⟨hx, hb, hr, hml, hown, hts, hlocks, hN, hK, hA⟩ := C1
  have hS : va_S (va_A W0 sz) s.heap s.heap [] := va_S.rf
  generalize va_A W0 sz = A at C0 hD hA hS ⊢
  show W p l e rmX7_readsA s m args below meth c s.heap [] 0 0 (QI below args s A D T RES W0) (F0 m 0 ls [])
  unfold mX7_readsA at hres
  refine lv_iload_n hx hb dX7_readsA_0 rfl (lv_at hl 0 rfl) ?_
  refine lv_iconst (v := (1 : Int32)) hx hb dX7_readsA_1 (by decide) ?_
  refine lv_icmp_lt (tgt := 15) hx hb dX7_readsA_2 (by decide) (fun c_1 => ?_) (fun c_1 => ?_)
  · replace hres := mi_p c_1 hres
    refine lv_iconst (v := (0 : Int32)) hx hb dX7_readsA_15 (by decide) ?_
    obtain rfl := Option.some.inj hres
    exact ret_I (r := (0 : Int32)) C0 rfl hP hD hS dX7_readsA_16
  · replace hres := mi_n c_1 hres
    refine lv_iload_n hx hb dX7_readsA_5 rfl (lv_at hl 0 rfl) ?_
    refine lv_bipush (v := (7 : Int32)) hx hb dX7_readsA_6 (by decide) ?_
    refine lv_icmp_gt (tgt := 15) hx hb dX7_readsA_8 (by decide) (fun c_2 => ?_) (fun c_2 => ?_)
    · replace hres := mi_p c_2 hres
      refine lv_iconst (v := (0 : Int32)) hx hb dX7_readsA_15 (by decide) ?_
      obtain rfl := Option.some.inj hres
      exact ret_I (r := (0 : Int32)) C0 rfl hP hD hS dX7_readsA_16
    · replace hres := mi_n c_2 hres
      refine lv_iconst (v := (1 : Int32)) hx hb dX7_readsA_11 (by decide) ?_
      refine lv_goto (tgt := 16) hx hb dX7_readsA_12 (by decide) ?_
      obtain rfl := Option.some.inj hres
      exact ret_I (r := (1 : Int32)) C0 rfl hP hD hS dX7_readsA_16
/-! ### SumsOver.readsB(I)Z -/
def rmX7_readsB : Room := { frames := 0, cells := 0, slots := 0, locals := 0 }
set_option maxHeartbeats 4000000 in
set_option maxRecDepth 100000 in
theorem kX7_readsB (l : Launch) (D : va_G) (T : TyL) (W0 : va_W) (x0 : Int32) (RES : Int32) (hres : mX7_readsB x0 = some RES) : CtI l yX7_readsB wsX7_readsB rmX7_readsB D T W0 [.int x0] RES W0 := by
  intro sz
  refine ct_entry (cc := cX7_readsB) (maxL := 1) (ret := some .boolean) (own := RX7) (by decide) rfl rfl (Nat.le_of_ble_eq_true rfl) (ll := [(0, .int x0)]) rfl ?_
  intro p e s m args below meth c hsz C0 _ hP hD ls hl
  have C1 := C0
  obtain ⟨hx, hb, hr, hml, hown, hts, hlocks, hN, hK, hA⟩ := C1
  have hS : va_S (va_A W0 sz) s.heap s.heap [] := va_S.rf
  generalize va_A W0 sz = A at C0 hD hA hS ⊢
  show W p l e rmX7_readsB s m args below meth c s.heap [] 0 0 (QI below args s A D T RES W0) (F0 m 0 ls [])
  unfold mX7_readsB at hres
  refine lv_iload_n hx hb dX7_readsB_0 rfl (lv_at hl 0 rfl) ?_
  refine lv_iconst (v := (2 : Int32)) hx hb dX7_readsB_1 (by decide) ?_
  refine lv_icmp_eq (tgt := 27) hx hb dX7_readsB_2 (by decide) (fun c_1 => ?_) (fun c_1 => ?_)
  · replace hres := mi_p c_1 hres
    refine lv_iconst (v := (1 : Int32)) hx hb dX7_readsB_27 (by decide) ?_
    refine lv_goto (tgt := 32) hx hb dX7_readsB_28 (by decide) ?_
    obtain rfl := Option.some.inj hres
    exact ret_I (r := (1 : Int32)) C0 rfl hP hD hS dX7_readsB_32
  · replace hres := mi_n c_1 hres
    refine lv_iload_n hx hb dX7_readsB_5 rfl (lv_at hl 0 rfl) ?_
    refine lv_iconst (v := (3 : Int32)) hx hb dX7_readsB_6 (by decide) ?_
    refine lv_icmp_eq (tgt := 27) hx hb dX7_readsB_7 (by decide) (fun c_2 => ?_) (fun c_2 => ?_)
    · replace hres := mi_p c_2 hres
      refine lv_iconst (v := (1 : Int32)) hx hb dX7_readsB_27 (by decide) ?_
      refine lv_goto (tgt := 32) hx hb dX7_readsB_28 (by decide) ?_
      obtain rfl := Option.some.inj hres
      exact ret_I (r := (1 : Int32)) C0 rfl hP hD hS dX7_readsB_32
    · replace hres := mi_n c_2 hres
      refine lv_iload_n hx hb dX7_readsB_10 rfl (lv_at hl 0 rfl) ?_
      refine lv_iconst (v := (4 : Int32)) hx hb dX7_readsB_11 (by decide) ?_
      refine lv_icmp_eq (tgt := 27) hx hb dX7_readsB_12 (by decide) (fun c_3 => ?_) (fun c_3 => ?_)
      · replace hres := mi_p c_3 hres
        refine lv_iconst (v := (1 : Int32)) hx hb dX7_readsB_27 (by decide) ?_
        refine lv_goto (tgt := 32) hx hb dX7_readsB_28 (by decide) ?_
        obtain rfl := Option.some.inj hres
        exact ret_I (r := (1 : Int32)) C0 rfl hP hD hS dX7_readsB_32
      · replace hres := mi_n c_3 hres
        refine lv_iload_n hx hb dX7_readsB_15 rfl (lv_at hl 0 rfl) ?_
        refine lv_bipush (v := (6 : Int32)) hx hb dX7_readsB_16 (by decide) ?_
        refine lv_icmp_eq (tgt := 27) hx hb dX7_readsB_18 (by decide) (fun c_4 => ?_) (fun c_4 => ?_)
        · replace hres := mi_p c_4 hres
          refine lv_iconst (v := (1 : Int32)) hx hb dX7_readsB_27 (by decide) ?_
          refine lv_goto (tgt := 32) hx hb dX7_readsB_28 (by decide) ?_
          obtain rfl := Option.some.inj hres
          exact ret_I (r := (1 : Int32)) C0 rfl hP hD hS dX7_readsB_32
        · replace hres := mi_n c_4 hres
          refine lv_iload_n hx hb dX7_readsB_21 rfl (lv_at hl 0 rfl) ?_
          refine lv_bipush (v := (7 : Int32)) hx hb dX7_readsB_22 (by decide) ?_
          refine lv_icmp_ne (tgt := 31) hx hb dX7_readsB_24 (by decide) (fun c_5 => ?_) (fun c_5 => ?_)
          · replace hres := mi_n c_5 hres
            refine lv_iconst (v := (0 : Int32)) hx hb dX7_readsB_31 (by decide) ?_
            obtain rfl := Option.some.inj hres
            exact ret_I (r := (0 : Int32)) C0 rfl hP hD hS dX7_readsB_32
          · replace hres := mi_p c_5 hres
            refine lv_iconst (v := (1 : Int32)) hx hb dX7_readsB_27 (by decide) ?_
            refine lv_goto (tgt := 32) hx hb dX7_readsB_28 (by decide) ?_
            obtain rfl := Option.some.inj hres
            exact ret_I (r := (1 : Int32)) C0 rfl hP hD hS dX7_readsB_32
/-! ### SumsOver$Trues.isProductTooFar(JJ)Z -/
theorem mwX6_isProductTooFar_0 : (.methodLink RX6 93 Lib.MathLoose.abs_long.x : Cond) ∈ wsX6_isProductTooFar := by decide +kernel
theorem mwX6_isProductTooFar_1 : (.static Lib.MathLoose.abs_long.x : Cond) ∈ wsX6_isProductTooFar := by decide +kernel
theorem mwX6_isProductTooFar_2 : (.initialized "java/lang/Math" : Cond) ∈ wsX6_isProductTooFar := by decide +kernel
theorem mwX6_isProductTooFar_3 : (.code Lib.MathLoose.abs_long.x Lib.MathLoose.abs_long.code 2 (some .long) : Cond) ∈ wsX6_isProductTooFar := by decide +kernel
theorem mwX6_isProductTooFar_4 : (.constantLong RX6 99 (1099511627776) : Cond) ∈ wsX6_isProductTooFar := by decide +kernel
def rmX6_isProductTooFar : Room := { frames := 1, cells := 0, slots := 0, locals := 23 }
set_option maxHeartbeats 4000000 in
set_option maxRecDepth 100000 in
theorem kX6_isProductTooFar (l : Launch) (D : va_G) (T : TyL) (W0 : va_W) (x0 : Int64) (x2 : Int64) (RES : Int32) (hres : mX6_isProductTooFar x0 x2 = some RES) : CtI l yX6_isProductTooFar wsX6_isProductTooFar rmX6_isProductTooFar D T W0 [.long x0, .long x2] RES W0 := by
  intro sz
  refine ct_entry (cc := cX6_isProductTooFar) (maxL := 4) (ret := some .boolean) (own := RX6) (by decide) rfl rfl (Nat.le_of_ble_eq_true rfl) (ll := [(0, .long x0), (2, .long x2)]) rfl ?_
  intro p e s m args below meth c hsz C0 _ hP hD ls hl
  have C1 := C0
  obtain ⟨hx, hb, hr, hml, hown, hts, hlocks, hN, hK, hA⟩ := C1
  have hS : va_S (va_A W0 sz) s.heap s.heap [] := va_S.rf
  generalize va_A W0 sz = A at C0 hD hA hS ⊢
  show W p l e rmX6_isProductTooFar s m args below meth c s.heap [] 0 0 (QI below args s A D T RES W0) (F0 m 0 ls [])
  unfold mX6_isProductTooFar at hres
  refine lv_lload_n hx hb dX6_isProductTooFar_0 rfl (lv_at hl 0 rfl) ?_
  refine lv_lconst (v := (0 : Int64)) hx hb dX6_isProductTooFar_1 (by decide) ?_
  refine W.lcmp hx hb dX6_isProductTooFar_2 ?_
  refine lv_if_eq (tgt := 26) hx hb dX6_isProductTooFar_3 (by decide) (fun c_1 => ?_) (fun c_1 => ?_)
  · rw [lg_cmp_eq] at c_1
    replace hres := mi_p c_1 hres
    refine lv_iconst (v := (0 : Int32)) hx hb dX6_isProductTooFar_26 (by decide) ?_
    obtain rfl := Option.some.inj hres
    exact ret_I (r := (0 : Int32)) C0 rfl hP hD hS dX6_isProductTooFar_27
  · rw [lg_cmp_eq] at c_1
    replace hres := mi_n c_1 hres
    refine lv_lload_n hx hb dX6_isProductTooFar_6 rfl (lv_at hl 1 rfl) ?_
    refine va_mabs_long hx hb (hml.trans hl.1.symm) hown (hts _ mwX6_isProductTooFar_0) (hts _ mwX6_isProductTooFar_1) (hts _ mwX6_isProductTooFar_2) (hts _ mwX6_isProductTooFar_3) (Nat.le_of_ble_eq_true rfl) (Nat.le_of_ble_eq_true rfl) (Nat.zero_le _) (Nat.zero_le _) dX6_isProductTooFar_7 ?_
    refine lv_ldc2 (own := RX6) (v := (1099511627776 : Int64)) hx hb hown (hts _ mwX6_isProductTooFar_4) dX6_isProductTooFar_10 ?_
    refine lv_lload_n hx hb dX6_isProductTooFar_13 rfl (lv_at hl 0 rfl) ?_
    refine va_mabs_long hx hb (hml.trans hl.1.symm) hown (hts _ mwX6_isProductTooFar_0) (hts _ mwX6_isProductTooFar_1) (hts _ mwX6_isProductTooFar_2) (hts _ mwX6_isProductTooFar_3) (Nat.le_of_ble_eq_true rfl) (Nat.le_of_ble_eq_true rfl) (Nat.zero_le _) (Nat.zero_le _) dX6_isProductTooFar_14 ?_
    obtain ⟨g_2, hres⟩ := mi_g hres
    refine lv_ldiv hx hb dX6_isProductTooFar_17 g_2 ?_
    refine W.lcmp hx hb dX6_isProductTooFar_18 ?_
    refine lv_if_le (tgt := 26) hx hb dX6_isProductTooFar_19 (by decide) (fun c_3 => ?_) (fun c_3 => ?_)
    · rw [lg_cmp_le] at c_3
      replace hres := mi_p c_3 hres
      refine lv_iconst (v := (0 : Int32)) hx hb dX6_isProductTooFar_26 (by decide) ?_
      obtain rfl := Option.some.inj hres
      exact ret_I (r := (0 : Int32)) C0 rfl hP hD hS dX6_isProductTooFar_27
    · rw [lg_cmp_le] at c_3
      replace hres := mi_n c_3 hres
      refine lv_iconst (v := (1 : Int32)) hx hb dX6_isProductTooFar_22 (by decide) ?_
      refine lv_goto (tgt := 27) hx hb dX6_isProductTooFar_23 (by decide) ?_
      obtain rfl := Option.some.inj hres
      exact ret_I (r := (1 : Int32)) C0 rfl hP hD hS dX6_isProductTooFar_27
/-! ### SumsOver.isName(I)Z -/
def rmX7_isName : Room := { frames := 0, cells := 0, slots := 0, locals := 0 }
set_option maxHeartbeats 4000000 in
set_option maxRecDepth 100000 in
theorem kX7_isName (l : Launch) (D : va_G) (T : TyL) (W0 : va_W) (x0 : Int32) (RES : Int32) (hres : mX7_isName x0 = some RES) : CtI l yX7_isName wsX7_isName rmX7_isName D T W0 [.int x0] RES W0 := by
  intro sz
  refine ct_entry (cc := cX7_isName) (maxL := 1) (ret := some .boolean) (own := RX7) (by decide) rfl rfl (Nat.le_of_ble_eq_true rfl) (ll := [(0, .int x0)]) rfl ?_
  intro p e s m args below meth c hsz C0 _ hP hD ls hl
  have C1 := C0
  obtain ⟨hx, hb, hr, hml, hown, hts, hlocks, hN, hK, hA⟩ := C1
  have hS : va_S (va_A W0 sz) s.heap s.heap [] := va_S.rf
  generalize va_A W0 sz = A at C0 hD hA hS ⊢
  show W p l e rmX7_isName s m args below meth c s.heap [] 0 0 (QI below args s A D T RES W0) (F0 m 0 ls [])
  unfold mX7_isName at hres
  refine lv_iload_n hx hb dX7_isName_0 rfl (lv_at hl 0 rfl) ?_
  refine lv_if_lt (tgt := 14) hx hb dX7_isName_1 (by decide) (fun c_1 => ?_) (fun c_1 => ?_)
  · replace hres := mi_p c_1 hres
    refine lv_iconst (v := (0 : Int32)) hx hb dX7_isName_14 (by decide) ?_
    obtain rfl := Option.some.inj hres
    exact ret_I (r := (0 : Int32)) C0 rfl hP hD hS dX7_isName_15
  · replace hres := mi_n c_1 hres
    refine lv_iload_n hx hb dX7_isName_4 rfl (lv_at hl 0 rfl) ?_
    refine lv_bipush (v := (6 : Int32)) hx hb dX7_isName_5 (by decide) ?_
    refine lv_icmp_ge (tgt := 14) hx hb dX7_isName_7 (by decide) (fun c_2 => ?_) (fun c_2 => ?_)
    · replace hres := mi_p c_2 hres
      refine lv_iconst (v := (0 : Int32)) hx hb dX7_isName_14 (by decide) ?_
      obtain rfl := Option.some.inj hres
      exact ret_I (r := (0 : Int32)) C0 rfl hP hD hS dX7_isName_15
    · replace hres := mi_n c_2 hres
      refine lv_iconst (v := (1 : Int32)) hx hb dX7_isName_10 (by decide) ?_
      refine lv_goto (tgt := 15) hx hb dX7_isName_11 (by decide) ?_
      obtain rfl := Option.some.inj hres
      exact ret_I (r := (1 : Int32)) C0 rfl hP hD hS dX7_isName_15
/-! ### SumsOver.isTold(I)Z -/
theorem mwX7_isTold_0 : (.constant RX7 194 (-100000) : Cond) ∈ wsX7_isTold := by decide +kernel
theorem mwX7_isTold_1 : (.constant RX7 195 (100000) : Cond) ∈ wsX7_isTold := by decide +kernel
def rmX7_isTold : Room := { frames := 0, cells := 0, slots := 0, locals := 0 }
set_option maxHeartbeats 4000000 in
set_option maxRecDepth 100000 in
theorem kX7_isTold (l : Launch) (D : va_G) (T : TyL) (W0 : va_W) (x0 : Int32) (RES : Int32) (hres : mX7_isTold x0 = some RES) : CtI l yX7_isTold wsX7_isTold rmX7_isTold D T W0 [.int x0] RES W0 := by
  intro sz
  refine ct_entry (cc := cX7_isTold) (maxL := 1) (ret := some .boolean) (own := RX7) (by decide) rfl rfl (Nat.le_of_ble_eq_true rfl) (ll := [(0, .int x0)]) rfl ?_
  intro p e s m args below meth c hsz C0 _ hP hD ls hl
  have C1 := C0
  obtain ⟨hx, hb, hr, hml, hown, hts, hlocks, hN, hK, hA⟩ := C1
  have hS : va_S (va_A W0 sz) s.heap s.heap [] := va_S.rf
  generalize va_A W0 sz = A at C0 hD hA hS ⊢
  show W p l e rmX7_isTold s m args below meth c s.heap [] 0 0 (QI below args s A D T RES W0) (F0 m 0 ls [])
  unfold mX7_isTold at hres
  refine lv_iload_n hx hb dX7_isTold_0 rfl (lv_at hl 0 rfl) ?_
  refine lv_ldc (own := RX7) (v := (-100000 : Int32)) hx hb hown (hts _ mwX7_isTold_0) dX7_isTold_1 ?_
  refine lv_icmp_lt (tgt := 16) hx hb dX7_isTold_3 (by decide) (fun c_1 => ?_) (fun c_1 => ?_)
  · replace hres := mi_p c_1 hres
    refine lv_iconst (v := (0 : Int32)) hx hb dX7_isTold_16 (by decide) ?_
    obtain rfl := Option.some.inj hres
    exact ret_I (r := (0 : Int32)) C0 rfl hP hD hS dX7_isTold_17
  · replace hres := mi_n c_1 hres
    refine lv_iload_n hx hb dX7_isTold_6 rfl (lv_at hl 0 rfl) ?_
    refine lv_ldc (own := RX7) (v := (100000 : Int32)) hx hb hown (hts _ mwX7_isTold_1) dX7_isTold_7 ?_
    refine lv_icmp_gt (tgt := 16) hx hb dX7_isTold_9 (by decide) (fun c_2 => ?_) (fun c_2 => ?_)
    · replace hres := mi_p c_2 hres
      refine lv_iconst (v := (0 : Int32)) hx hb dX7_isTold_16 (by decide) ?_
      obtain rfl := Option.some.inj hres
      exact ret_I (r := (0 : Int32)) C0 rfl hP hD hS dX7_isTold_17
    · replace hres := mi_n c_2 hres
      refine lv_iconst (v := (1 : Int32)) hx hb dX7_isTold_12 (by decide) ?_
      refine lv_goto (tgt := 17) hx hb dX7_isTold_13 (by decide) ?_
      obtain rfl := Option.some.inj hres
      exact ret_I (r := (1 : Int32)) C0 rfl hP hD hS dX7_isTold_17
/-! ### SumsOver.canBeB(II)Z -/
def rmX7_canBeB : Room := { frames := 1, cells := 0, slots := 0, locals := 20 }
set_option maxHeartbeats 4000000 in
set_option maxRecDepth 100000 in
theorem kX7_canBeB (l : Launch) (D : va_G) (T : TyL) (W0 : va_W) (x0 : Int32) (x1 : Int32) (RES : Int32) (hres : mX7_canBeB x0 x1 = some RES) : CtI l yX7_canBeB wsX7_canBeB rmX7_canBeB D T W0 [.int x0, .int x1] RES W0 := by
  intro sz
  refine ct_entry (cc := cX7_canBeB) (maxL := 2) (ret := some .boolean) (own := RX7) (by decide) rfl rfl (Nat.le_of_ble_eq_true rfl) (ll := [(0, .int x0), (1, .int x1)]) rfl ?_
  intro p e s m args below meth c hsz C0 _ hP hD ls hl
  have C1 := C0
  obtain ⟨hx, hb, hr, hml, hown, hts, hlocks, hN, hK, hA⟩ := C1
  have hS : va_S (va_A W0 sz) s.heap s.heap [] := va_S.rf
  generalize va_A W0 sz = A at C0 hD hA hS ⊢
  show W p l e rmX7_canBeB s m args below meth c s.heap [] 0 0 (QI below args s A D T RES W0) (F0 m 0 ls [])
  unfold mX7_canBeB at hres
  refine lv_iload_n hx hb dX7_canBeB_0 rfl (lv_at hl 0 rfl) ?_
  obtain ⟨u1, hu1, hres⟩ := mi_b hres
  refine call_I C0 (run_S C0 (rest := []) (kX7_readsB l D T W0 x0 u1 hu1 _) (va_cwS 1 hts gX7_canBeB_X7_readsB rfl rfl rfl (by decide +kernel) ⟨by decide, by decide⟩) hP hD rfl hl.1 rfl (Nat.le_of_ble_eq_true rfl) dX7_canBeB_1) hD hS (fun H locs hP hD hS => ?_)
  refine lv_if_eq (tgt := 12) hx hb dX7_canBeB_4 (by decide) (fun c_2 => ?_) (fun c_2 => ?_)
  · replace hres := mi_p c_2 hres
    refine lv_iload_n hx hb dX7_canBeB_12 rfl (lv_at hl 0 rfl) ?_
    by_cases c_3 : x0 = (0 : Int32)
    · replace hres := mi_p c_3 hres
      refine lv_lookup (off := 35) (tgt := 48) hx hb dX7_canBeB_13 (by decide) (by have h9 := c_3; rw [h9]; decide) (by decide) ?_
      refine lv_iload_n hx hb dX7_canBeB_48 rfl (lv_at hl 1 rfl) ?_
      obtain ⟨u4, hu4, hres⟩ := mi_b hres
      refine call_I C0 (run_S C0 (rest := []) (kX7_isTold l D T W0 x1 u4 hu4 _) (va_cwS 1 hts gX7_canBeB_X7_isTold rfl rfl rfl (by decide +kernel) ⟨by decide, by decide⟩) hP hD rfl hl.1 rfl (Nat.le_of_ble_eq_true rfl) dX7_canBeB_49) hD hS (fun H locs hP hD hS => ?_)
      obtain ⟨g_5, hres⟩ := mi_g hres
      obtain rfl := Option.some.inj hres
      exact ret_I (r := u4) C0 (narrow_z (Decidable.not_not.mp g_5)) hP hD hS dX7_canBeB_52
    · replace hres := mi_n c_3 hres
      by_cases c_6 : x0 = (5 : Int32)
      · replace hres := mi_p c_6 hres
        refine lv_lookup (off := 40) (tgt := 53) hx hb dX7_canBeB_13 (by decide) (by have h9 := c_6; rw [h9]; decide) (by decide) ?_
        refine lv_iload_n hx hb dX7_canBeB_53 rfl (lv_at hl 1 rfl) ?_
        refine lv_if_lt (tgt := 67) hx hb dX7_canBeB_54 (by decide) (fun c_7 => ?_) (fun c_7 => ?_)
        · replace hres := mi_p c_7 hres
          refine lv_iconst (v := (0 : Int32)) hx hb dX7_canBeB_67 (by decide) ?_
          obtain rfl := Option.some.inj hres
          exact ret_I (r := (0 : Int32)) C0 rfl hP hD hS dX7_canBeB_68
        · replace hres := mi_n c_7 hres
          refine lv_iload_n hx hb dX7_canBeB_57 rfl (lv_at hl 1 rfl) ?_
          refine lv_bipush (v := (12 : Int32)) hx hb dX7_canBeB_58 (by decide) ?_
          refine lv_icmp_gt (tgt := 67) hx hb dX7_canBeB_60 (by decide) (fun c_8 => ?_) (fun c_8 => ?_)
          · replace hres := mi_p c_8 hres
            refine lv_iconst (v := (0 : Int32)) hx hb dX7_canBeB_67 (by decide) ?_
            obtain rfl := Option.some.inj hres
            exact ret_I (r := (0 : Int32)) C0 rfl hP hD hS dX7_canBeB_68
          · replace hres := mi_n c_8 hres
            refine lv_iconst (v := (1 : Int32)) hx hb dX7_canBeB_63 (by decide) ?_
            refine lv_goto (tgt := 68) hx hb dX7_canBeB_64 (by decide) ?_
            obtain rfl := Option.some.inj hres
            exact ret_I (r := (1 : Int32)) C0 rfl hP hD hS dX7_canBeB_68
      · replace hres := mi_n c_6 hres
        by_cases c_9 : x0 = (8 : Int32)
        · replace hres := mi_p c_9 hres
          refine lv_lookup (off := 56) (tgt := 69) hx hb dX7_canBeB_13 (by decide) (by have h9 := c_9; rw [h9]; decide) (by decide) ?_
          refine lv_iload_n hx hb dX7_canBeB_69 rfl (lv_at hl 1 rfl) ?_
          refine lv_iconst (v := (1 : Int32)) hx hb dX7_canBeB_70 (by decide) ?_
          refine lv_icmp_lt (tgt := 84) hx hb dX7_canBeB_71 (by decide) (fun c_10 => ?_) (fun c_10 => ?_)
          · replace hres := mi_p c_10 hres
            refine lv_iconst (v := (0 : Int32)) hx hb dX7_canBeB_84 (by decide) ?_
            obtain rfl := Option.some.inj hres
            exact ret_I (r := (0 : Int32)) C0 rfl hP hD hS dX7_canBeB_85
          · replace hres := mi_n c_10 hres
            refine lv_iload_n hx hb dX7_canBeB_74 rfl (lv_at hl 1 rfl) ?_
            refine lv_bipush (v := (12 : Int32)) hx hb dX7_canBeB_75 (by decide) ?_
            refine lv_icmp_gt (tgt := 84) hx hb dX7_canBeB_77 (by decide) (fun c_11 => ?_) (fun c_11 => ?_)
            · replace hres := mi_p c_11 hres
              refine lv_iconst (v := (0 : Int32)) hx hb dX7_canBeB_84 (by decide) ?_
              obtain rfl := Option.some.inj hres
              exact ret_I (r := (0 : Int32)) C0 rfl hP hD hS dX7_canBeB_85
            · replace hres := mi_n c_11 hres
              refine lv_iconst (v := (1 : Int32)) hx hb dX7_canBeB_80 (by decide) ?_
              refine lv_goto (tgt := 85) hx hb dX7_canBeB_81 (by decide) ?_
              obtain rfl := Option.some.inj hres
              exact ret_I (r := (1 : Int32)) C0 rfl hP hD hS dX7_canBeB_85
        · replace hres := mi_n c_9 hres
          refine lv_lookup (off := 73) (tgt := 86) hx hb dX7_canBeB_13 (by decide) ((lv_osw (k := (0 : Int32)) c_3 (by decide)).trans ((lv_osw (k := (5 : Int32)) c_6 (by decide)).trans ((lv_osw (k := (8 : Int32)) c_9 (by decide)).trans rfl))) (by decide) ?_
          refine lv_iconst (v := (1 : Int32)) hx hb dX7_canBeB_86 (by decide) ?_
          obtain rfl := Option.some.inj hres
          exact ret_I (r := (1 : Int32)) C0 rfl hP hD hS dX7_canBeB_87
  · replace hres := mi_n c_2 hres
    refine lv_iload_n hx hb dX7_canBeB_7 rfl (lv_at hl 1 rfl) ?_
    obtain ⟨u12, hu12, hres⟩ := mi_b hres
    refine call_I C0 (run_S C0 (rest := []) (kX7_isName l D T W0 x1 u12 hu12 _) (va_cwS 1 hts gX7_canBeB_X7_isName rfl rfl rfl (by decide +kernel) ⟨by decide, by decide⟩) hP hD rfl hl.1 rfl (Nat.le_of_ble_eq_true rfl) dX7_canBeB_8) hD hS (fun H locs hP hD hS => ?_)
    obtain ⟨g_13, hres⟩ := mi_g hres
    obtain rfl := Option.some.inj hres
    exact ret_I (r := u12) C0 (narrow_z (Decidable.not_not.mp g_13)) hP hD hS dX7_canBeB_11
/-! ### SumsOver.canBe(IIII)Z -/
def rmX7_canBe : Room := { frames := 2, cells := 0, slots := 0, locals := 41 }
set_option maxHeartbeats 4000000 in
set_option maxRecDepth 100000 in
theorem kX7_canBe (l : Launch) (D : va_G) (T : TyL) (W0 : va_W) (x0 : Int32) (x1 : Int32) (x2 : Int32) (x3 : Int32) (RES : Int32) (hres : mX7_canBe x0 x1 x2 x3 = some RES) : CtI l yX7_canBe wsX7_canBe rmX7_canBe D T W0 [.int x0, .int x1, .int x2, .int x3] RES W0 := by
  intro sz
  refine ct_entry (cc := cX7_canBe) (maxL := 4) (ret := some .boolean) (own := RX7) (by decide) rfl rfl (Nat.le_of_ble_eq_true rfl) (ll := [(0, .int x0), (1, .int x1), (2, .int x2), (3, .int x3)]) rfl ?_
  intro p e s m args below meth c hsz C0 _ hP hD ls hl
  have C1 := C0
  obtain ⟨hx, hb, hr, hml, hown, hts, hlocks, hN, hK, hA⟩ := C1
  have hS : va_S (va_A W0 sz) s.heap s.heap [] := va_S.rf
  generalize va_A W0 sz = A at C0 hD hA hS ⊢
  show W p l e rmX7_canBe s m args below meth c s.heap [] 0 0 (QI below args s A D T RES W0) (F0 m 0 ls [])
  unfold mX7_canBe at hres
  refine lv_iload_n hx hb dX7_canBe_0 rfl (lv_at hl 0 rfl) ?_
  refine lv_if_lt (tgt := 10) hx hb dX7_canBe_1 (by decide) (fun c_1 => ?_) (fun c_1 => ?_)
  · replace hres := mi_p c_1 hres
    refine lv_iconst (v := (0 : Int32)) hx hb dX7_canBe_10 (by decide) ?_
    obtain rfl := Option.some.inj hres
    exact ret_I (r := (0 : Int32)) C0 rfl hP hD hS dX7_canBe_11
  · replace hres := mi_n c_1 hres
    refine lv_iload_n hx hb dX7_canBe_4 rfl (lv_at hl 0 rfl) ?_
    refine lv_bipush (v := (9 : Int32)) hx hb dX7_canBe_5 (by decide) ?_
    refine lv_icmp_le (tgt := 12) hx hb dX7_canBe_7 (by decide) (fun c_2 => ?_) (fun c_2 => ?_)
    · replace hres := mi_p c_2 hres
      refine lv_iload_n hx hb dX7_canBe_12 rfl (lv_at hl 0 rfl) ?_
      obtain ⟨u3, hu3, hres⟩ := mi_b hres
      refine call_I C0 (run_S C0 (rest := []) (kX7_hasTarget l D T W0 x0 u3 hu3 _) (va_cwS 1 hts gX7_canBe_X7_hasTarget rfl rfl rfl (by decide +kernel) ⟨by decide, by decide⟩) hP hD rfl hl.1 rfl (Nat.le_of_ble_eq_true rfl) dX7_canBe_13) hD hS (fun H locs hP hD hS => ?_)
      refine lv_if_eq (tgt := 28) hx hb dX7_canBe_16 (by decide) (fun c_4 => ?_) (fun c_4 => ?_)
      · replace hres := mi_p c_4 hres
        refine lv_iload_n hx hb dX7_canBe_28 rfl (lv_at hl 0 rfl) ?_
        obtain ⟨u5, hu5, hres⟩ := mi_b hres
        refine call_I C0 (run_S C0 (rest := []) (kX7_readsA l D T W0 x0 u5 hu5 _) (va_cwS 1 hts gX7_canBe_X7_readsA rfl rfl rfl (by decide +kernel) ⟨by decide, by decide⟩) hP hD rfl hl.1 rfl (Nat.le_of_ble_eq_true rfl) dX7_canBe_29) hD hS (fun H locs hP hD hS => ?_)
        refine lv_if_eq (tgt := 44) hx hb dX7_canBe_32 (by decide) (fun c_6 => ?_) (fun c_6 => ?_)
        · replace hres := mi_p c_6 hres
          refine lv_iload_n hx hb dX7_canBe_44 rfl (lv_at hl 0 rfl) ?_
          refine lv_iload_n hx hb dX7_canBe_45 rfl (lv_at hl 3 rfl) ?_
          obtain ⟨u7, hu7, hres⟩ := mi_b hres
          refine call_I C0 (run_S C0 (rest := []) (kX7_canBeB l D T W0 x0 x3 u7 hu7 _) (va_cwS 2 hts gX7_canBe_X7_canBeB rfl rfl rfl (by decide +kernel) ⟨by decide, by decide⟩) hP hD rfl hl.1 rfl (Nat.le_of_ble_eq_true rfl) dX7_canBe_46) hD hS (fun H locs hP hD hS => ?_)
          obtain ⟨g_8, hres⟩ := mi_g hres
          obtain rfl := Option.some.inj hres
          exact ret_I (r := u7) C0 (narrow_z (Decidable.not_not.mp g_8)) hP hD hS dX7_canBe_49
        · replace hres := mi_n c_6 hres
          refine lv_iload_n hx hb dX7_canBe_35 rfl (lv_at hl 2 rfl) ?_
          obtain ⟨u9, hu9, hres⟩ := mi_b hres
          refine call_I C0 (run_S C0 (rest := []) (kX7_isName l D T W0 x2 u9 hu9 _) (va_cwS 1 hts gX7_canBe_X7_isName rfl rfl rfl (by decide +kernel) ⟨by decide, by decide⟩) hP hD rfl hl.1 rfl (Nat.le_of_ble_eq_true rfl) dX7_canBe_36) hD hS (fun H locs hP hD hS => ?_)
          refine lv_if_ne (tgt := 44) hx hb dX7_canBe_39 (by decide) (fun c_10 => ?_) (fun c_10 => ?_)
          · replace hres := mi_n c_10 hres
            refine lv_iload_n hx hb dX7_canBe_44 rfl (lv_at hl 0 rfl) ?_
            refine lv_iload_n hx hb dX7_canBe_45 rfl (lv_at hl 3 rfl) ?_
            obtain ⟨u11, hu11, hres⟩ := mi_b hres
            refine call_I C0 (run_S C0 (rest := []) (kX7_canBeB l D T W0 x0 x3 u11 hu11 _) (va_cwS 2 hts gX7_canBe_X7_canBeB rfl rfl rfl (by decide +kernel) ⟨by decide, by decide⟩) hP hD rfl hl.1 rfl (Nat.le_of_ble_eq_true rfl) dX7_canBe_46) hD hS (fun H locs hP hD hS => ?_)
            obtain ⟨g_12, hres⟩ := mi_g hres
            obtain rfl := Option.some.inj hres
            exact ret_I (r := u11) C0 (narrow_z (Decidable.not_not.mp g_12)) hP hD hS dX7_canBe_49
          · replace hres := mi_p c_10 hres
            refine lv_iconst (v := (0 : Int32)) hx hb dX7_canBe_42 (by decide) ?_
            obtain rfl := Option.some.inj hres
            exact ret_I (r := (0 : Int32)) C0 rfl hP hD hS dX7_canBe_43
      · replace hres := mi_n c_4 hres
        refine lv_iload_n hx hb dX7_canBe_19 rfl (lv_at hl 1 rfl) ?_
        obtain ⟨u13, hu13, hres⟩ := mi_b hres
        refine call_I C0 (run_S C0 (rest := []) (kX7_isName l D T W0 x1 u13 hu13 _) (va_cwS 1 hts gX7_canBe_X7_isName rfl rfl rfl (by decide +kernel) ⟨by decide, by decide⟩) hP hD rfl hl.1 rfl (Nat.le_of_ble_eq_true rfl) dX7_canBe_20) hD hS (fun H locs hP hD hS => ?_)
        refine lv_if_ne (tgt := 28) hx hb dX7_canBe_23 (by decide) (fun c_14 => ?_) (fun c_14 => ?_)
        · replace hres := mi_n c_14 hres
          refine lv_iload_n hx hb dX7_canBe_28 rfl (lv_at hl 0 rfl) ?_
          obtain ⟨u15, hu15, hres⟩ := mi_b hres
          refine call_I C0 (run_S C0 (rest := []) (kX7_readsA l D T W0 x0 u15 hu15 _) (va_cwS 1 hts gX7_canBe_X7_readsA rfl rfl rfl (by decide +kernel) ⟨by decide, by decide⟩) hP hD rfl hl.1 rfl (Nat.le_of_ble_eq_true rfl) dX7_canBe_29) hD hS (fun H locs hP hD hS => ?_)
          refine lv_if_eq (tgt := 44) hx hb dX7_canBe_32 (by decide) (fun c_16 => ?_) (fun c_16 => ?_)
          · replace hres := mi_p c_16 hres
            refine lv_iload_n hx hb dX7_canBe_44 rfl (lv_at hl 0 rfl) ?_
            refine lv_iload_n hx hb dX7_canBe_45 rfl (lv_at hl 3 rfl) ?_
            obtain ⟨u17, hu17, hres⟩ := mi_b hres
            refine call_I C0 (run_S C0 (rest := []) (kX7_canBeB l D T W0 x0 x3 u17 hu17 _) (va_cwS 2 hts gX7_canBe_X7_canBeB rfl rfl rfl (by decide +kernel) ⟨by decide, by decide⟩) hP hD rfl hl.1 rfl (Nat.le_of_ble_eq_true rfl) dX7_canBe_46) hD hS (fun H locs hP hD hS => ?_)
            obtain ⟨g_18, hres⟩ := mi_g hres
            obtain rfl := Option.some.inj hres
            exact ret_I (r := u17) C0 (narrow_z (Decidable.not_not.mp g_18)) hP hD hS dX7_canBe_49
          · replace hres := mi_n c_16 hres
            refine lv_iload_n hx hb dX7_canBe_35 rfl (lv_at hl 2 rfl) ?_
            obtain ⟨u19, hu19, hres⟩ := mi_b hres
            refine call_I C0 (run_S C0 (rest := []) (kX7_isName l D T W0 x2 u19 hu19 _) (va_cwS 1 hts gX7_canBe_X7_isName rfl rfl rfl (by decide +kernel) ⟨by decide, by decide⟩) hP hD rfl hl.1 rfl (Nat.le_of_ble_eq_true rfl) dX7_canBe_36) hD hS (fun H locs hP hD hS => ?_)
            refine lv_if_ne (tgt := 44) hx hb dX7_canBe_39 (by decide) (fun c_20 => ?_) (fun c_20 => ?_)
            · replace hres := mi_n c_20 hres
              refine lv_iload_n hx hb dX7_canBe_44 rfl (lv_at hl 0 rfl) ?_
              refine lv_iload_n hx hb dX7_canBe_45 rfl (lv_at hl 3 rfl) ?_
              obtain ⟨u21, hu21, hres⟩ := mi_b hres
              refine call_I C0 (run_S C0 (rest := []) (kX7_canBeB l D T W0 x0 x3 u21 hu21 _) (va_cwS 2 hts gX7_canBe_X7_canBeB rfl rfl rfl (by decide +kernel) ⟨by decide, by decide⟩) hP hD rfl hl.1 rfl (Nat.le_of_ble_eq_true rfl) dX7_canBe_46) hD hS (fun H locs hP hD hS => ?_)
              obtain ⟨g_22, hres⟩ := mi_g hres
              obtain rfl := Option.some.inj hres
              exact ret_I (r := u21) C0 (narrow_z (Decidable.not_not.mp g_22)) hP hD hS dX7_canBe_49
            · replace hres := mi_p c_20 hres
              refine lv_iconst (v := (0 : Int32)) hx hb dX7_canBe_42 (by decide) ?_
              obtain rfl := Option.some.inj hres
              exact ret_I (r := (0 : Int32)) C0 rfl hP hD hS dX7_canBe_43
        · replace hres := mi_p c_14 hres
          refine lv_iconst (v := (0 : Int32)) hx hb dX7_canBe_26 (by decide) ?_
          obtain rfl := Option.some.inj hres
          exact ret_I (r := (0 : Int32)) C0 rfl hP hD hS dX7_canBe_27
    · replace hres := mi_n c_2 hres
      refine lv_iconst (v := (0 : Int32)) hx hb dX7_canBe_10 (by decide) ?_
      obtain rfl := Option.some.inj hres
      exact ret_I (r := (0 : Int32)) C0 rfl hP hD hS dX7_canBe_11
/-! ### SumsOverModel.in(JJJ)Z -/
def rmX8_in : Room := { frames := 0, cells := 0, slots := 0, locals := 0 }
set_option maxHeartbeats 4000000 in
set_option maxRecDepth 100000 in
theorem kX8_in (l : Launch) (D : va_G) (T : TyL) (W0 : va_W) (x0 : Int64) (x2 : Int64) (x4 : Int64) (RES : Int32) (hres : mX8_in x0 x2 x4 = some RES) : CtI l yX8_in wsX8_in rmX8_in D T W0 [.long x0, .long x2, .long x4] RES W0 := by
  intro sz
  refine ct_entry (cc := cX8_in) (maxL := 6) (ret := some .boolean) (own := RX8) (by decide) rfl rfl (Nat.le_of_ble_eq_true rfl) (ll := [(0, .long x0), (2, .long x2), (4, .long x4)]) rfl ?_
  intro p e s m args below meth c hsz C0 _ hP hD ls hl
  have C1 := C0
  obtain ⟨hx, hb, hr, hml, hown, hts, hlocks, hN, hK, hA⟩ := C1
  have hS : va_S (va_A W0 sz) s.heap s.heap [] := va_S.rf
  generalize va_A W0 sz = A at C0 hD hA hS ⊢
  show W p l e rmX8_in s m args below meth c s.heap [] 0 0 (QI below args s A D T RES W0) (F0 m 0 ls [])
  unfold mX8_in at hres
  refine lv_lload_n hx hb dX8_in_0 rfl (lv_at hl 0 rfl) ?_
  refine lv_lload_n hx hb dX8_in_1 rfl (lv_at hl 1 rfl) ?_
  refine W.lcmp hx hb dX8_in_2 ?_
  refine lv_if_lt (tgt := 17) hx hb dX8_in_3 (by decide) (fun c_1 => ?_) (fun c_1 => ?_)
  · rw [lg_cmp_lt] at c_1
    replace hres := mi_p c_1 hres
    refine lv_iconst (v := (0 : Int32)) hx hb dX8_in_17 (by decide) ?_
    obtain rfl := Option.some.inj hres
    exact ret_I (r := (0 : Int32)) C0 rfl hP hD hS dX8_in_18
  · rw [lg_cmp_lt] at c_1
    replace hres := mi_n c_1 hres
    refine lv_lload_n hx hb dX8_in_6 rfl (lv_at hl 0 rfl) ?_
    refine lv_lload hx hb dX8_in_7 (lv_at hl 2 rfl) ?_
    refine W.lcmp hx hb dX8_in_9 ?_
    refine lv_if_gt (tgt := 17) hx hb dX8_in_10 (by decide) (fun c_2 => ?_) (fun c_2 => ?_)
    · rw [lg_cmp_gt] at c_2
      replace hres := mi_p c_2 hres
      refine lv_iconst (v := (0 : Int32)) hx hb dX8_in_17 (by decide) ?_
      obtain rfl := Option.some.inj hres
      exact ret_I (r := (0 : Int32)) C0 rfl hP hD hS dX8_in_18
    · rw [lg_cmp_gt] at c_2
      replace hres := mi_n c_2 hres
      refine lv_iconst (v := (1 : Int32)) hx hb dX8_in_13 (by decide) ?_
      refine lv_goto (tgt := 18) hx hb dX8_in_14 (by decide) ?_
      obtain rfl := Option.some.inj hres
      exact ret_I (r := (1 : Int32)) C0 rfl hP hD hS dX8_in_18
/-! ### SumsOverModel.isName(I)Z -/
theorem mwX8_isName_0 : (.constantLong RX8 83 (5) : Cond) ∈ wsX8_isName := by decide +kernel
def rmX8_isName : Room := { frames := 1, cells := 0, slots := 0, locals := 25 }
set_option maxHeartbeats 4000000 in
set_option maxRecDepth 100000 in
theorem kX8_isName (l : Launch) (D : va_G) (T : TyL) (W0 : va_W) (x0 : Int32) (RES : Int32) (hres : mX8_isName x0 = some RES) : CtI l yX8_isName wsX8_isName rmX8_isName D T W0 [.int x0] RES W0 := by
  intro sz
  refine ct_entry (cc := cX8_isName) (maxL := 1) (ret := some .boolean) (own := RX8) (by decide) rfl rfl (Nat.le_of_ble_eq_true rfl) (ll := [(0, .int x0)]) rfl ?_
  intro p e s m args below meth c hsz C0 _ hP hD ls hl
  have C1 := C0
  obtain ⟨hx, hb, hr, hml, hown, hts, hlocks, hN, hK, hA⟩ := C1
  have hS : va_S (va_A W0 sz) s.heap s.heap [] := va_S.rf
  generalize va_A W0 sz = A at C0 hD hA hS ⊢
  show W p l e rmX8_isName s m args below meth c s.heap [] 0 0 (QI below args s A D T RES W0) (F0 m 0 ls [])
  unfold mX8_isName at hres
  refine lv_iload_n hx hb dX8_isName_0 rfl (lv_at hl 0 rfl) ?_
  refine lv_i2l (v := (x0).toInt64) hx hb dX8_isName_1 rfl ?_
  refine lv_lconst (v := (0 : Int64)) hx hb dX8_isName_2 (by decide) ?_
  refine lv_ldc2 (own := RX8) (v := (5 : Int64)) hx hb hown (hts _ mwX8_isName_0) dX8_isName_3 ?_
  obtain ⟨u1, hu1, hres⟩ := mi_b hres
  refine call_I C0 (run_S C0 (rest := []) (kX8_in l D T W0 ((x0).toInt64) (0 : Int64) (5 : Int64) u1 hu1 _) (va_cwS 3 hts gX8_isName_X8_in rfl rfl rfl (by decide +kernel) ⟨by decide, by decide⟩) hP hD rfl hl.1 rfl (Nat.le_of_ble_eq_true rfl) dX8_isName_6) hD hS (fun H locs hP hD hS => ?_)
  obtain ⟨g_2, hres⟩ := mi_g hres
  obtain rfl := Option.some.inj hres
  exact ret_I (r := u1) C0 (narrow_z (Decidable.not_not.mp g_2)) hP hD hS dX8_isName_9
/-! ### SumsOverModel.rest(JJ)J -/
def rmX8_rest : Room := { frames := 0, cells := 0, slots := 0, locals := 0 }
set_option maxHeartbeats 4000000 in
set_option maxRecDepth 100000 in
theorem kX8_rest (l : Launch) (D : va_G) (T : TyL) (W0 : va_W) (x0 : Int64) (x2 : Int64) (RES : Int64) (hres : mX8_rest x0 x2 = some RES) : CtL l yX8_rest wsX8_rest rmX8_rest D T W0 [.long x0, .long x2] RES W0 := by
  intro sz
  refine ct_entry (cc := cX8_rest) (maxL := 6) (ret := some .long) (own := RX8) (by decide) rfl rfl (Nat.le_of_ble_eq_true rfl) (ll := [(0, .long x0), (2, .long x2)]) rfl ?_
  intro p e s m args below meth c hsz C0 _ hP hD ls hl
  have C1 := C0
  obtain ⟨hx, hb, hr, hml, hown, hts, hlocks, hN, hK, hA⟩ := C1
  have hS : va_S (va_A W0 sz) s.heap s.heap [] := va_S.rf
  generalize va_A W0 sz = A at C0 hD hA hS ⊢
  show W p l e rmX8_rest s m args below meth c s.heap [] 0 0 (QL below args s A D T RES W0) (F0 m 0 ls [])
  unfold mX8_rest at hres
  refine lv_lload_n hx hb dX8_rest_0 rfl (lv_at hl 0 rfl) ?_
  refine lv_lload_n hx hb dX8_rest_1 rfl (lv_at hl 1 rfl) ?_
  obtain ⟨g_1, hres⟩ := mi_g hres
  refine lv_lrem hx hb dX8_rest_2 g_1 ?_
  refine lv_lstore (lv' := [(4, .long (x0 - x0 / x2 * x2)), (0, .long x0), (2, .long x2)]) hx hb dX8_rest_3 hl (by decide) rfl (fun ls hl => ?_)
  refine lv_lload hx hb dX8_rest_5 (lv_at hl 0 rfl) ?_
  refine lv_lconst (v := (0 : Int64)) hx hb dX8_rest_7 (by decide) ?_
  refine W.lcmp hx hb dX8_rest_8 ?_
  refine lv_if_ge (tgt := 19) hx hb dX8_rest_9 (by decide) (fun c_2 => ?_) (fun c_2 => ?_)
  · rw [lg_cmp_ge] at c_2
    replace hres := mi_p c_2 hres
    refine lv_lload hx hb dX8_rest_19 (lv_at hl 0 rfl) ?_
    obtain rfl := Option.some.inj hres
    exact ret_L (r := (x0 - x0 / x2 * x2)) C0 hP hD hS dX8_rest_21
  · rw [lg_cmp_ge] at c_2
    replace hres := mi_n c_2 hres
    refine lv_lload hx hb dX8_rest_12 (lv_at hl 0 rfl) ?_
    refine lv_lload_n hx hb dX8_rest_14 rfl (lv_at hl 2 rfl) ?_
    refine lv_ladd hx hb dX8_rest_15 ?_
    refine lv_goto (tgt := 21) hx hb dX8_rest_16 (by decide) ?_
    obtain rfl := Option.some.inj hres
    exact ret_L (r := ((x0 - x0 / x2 * x2) + x2)) C0 hP hD hS dX8_rest_21
/-! ### SumsOverModel.isFar(J)Z -/
theorem mwX8_isFar_0 : (.constantLong RX8 197 (-1099511627776) : Cond) ∈ wsX8_isFar := by decide +kernel
theorem mwX8_isFar_1 : (.constantLong RX8 199 (1099511627776) : Cond) ∈ wsX8_isFar := by decide +kernel
def rmX8_isFar : Room := { frames := 1, cells := 0, slots := 0, locals := 25 }
set_option maxHeartbeats 4000000 in
set_option maxRecDepth 100000 in
theorem kX8_isFar (l : Launch) (D : va_G) (T : TyL) (W0 : va_W) (x0 : Int64) (RES : Int32) (hres : mX8_isFar x0 = some RES) : CtI l yX8_isFar wsX8_isFar rmX8_isFar D T W0 [.long x0] RES W0 := by
  intro sz
  refine ct_entry (cc := cX8_isFar) (maxL := 2) (ret := some .boolean) (own := RX8) (by decide) rfl rfl (Nat.le_of_ble_eq_true rfl) (ll := [(0, .long x0)]) rfl ?_
  intro p e s m args below meth c hsz C0 _ hP hD ls hl
  have C1 := C0
  obtain ⟨hx, hb, hr, hml, hown, hts, hlocks, hN, hK, hA⟩ := C1
  have hS : va_S (va_A W0 sz) s.heap s.heap [] := va_S.rf
  generalize va_A W0 sz = A at C0 hD hA hS ⊢
  show W p l e rmX8_isFar s m args below meth c s.heap [] 0 0 (QI below args s A D T RES W0) (F0 m 0 ls [])
  unfold mX8_isFar at hres
  refine lv_lload_n hx hb dX8_isFar_0 rfl (lv_at hl 0 rfl) ?_
  refine lv_ldc2 (own := RX8) (v := (-1099511627776 : Int64)) hx hb hown (hts _ mwX8_isFar_0) dX8_isFar_1 ?_
  refine lv_ldc2 (own := RX8) (v := (1099511627776 : Int64)) hx hb hown (hts _ mwX8_isFar_1) dX8_isFar_4 ?_
  obtain ⟨u1, hu1, hres⟩ := mi_b hres
  refine call_I C0 (run_S C0 (rest := []) (kX8_in l D T W0 x0 (-1099511627776 : Int64) (1099511627776 : Int64) u1 hu1 _) (va_cwS 3 hts gX8_isFar_X8_in rfl rfl rfl (by decide +kernel) ⟨by decide, by decide⟩) hP hD rfl hl.1 rfl (Nat.le_of_ble_eq_true rfl) dX8_isFar_7) hD hS (fun H locs hP hD hS => ?_)
  refine lv_if_ne (tgt := 17) hx hb dX8_isFar_10 (by decide) (fun c_2 => ?_) (fun c_2 => ?_)
  · replace hres := mi_n c_2 hres
    refine lv_iconst (v := (0 : Int32)) hx hb dX8_isFar_17 (by decide) ?_
    obtain rfl := Option.some.inj hres
    exact ret_I (r := (0 : Int32)) C0 rfl hP hD hS dX8_isFar_18
  · replace hres := mi_p c_2 hres
    refine lv_iconst (v := (1 : Int32)) hx hb dX8_isFar_13 (by decide) ?_
    refine lv_goto (tgt := 18) hx hb dX8_isFar_14 (by decide) ?_
    obtain rfl := Option.some.inj hres
    exact ret_I (r := (1 : Int32)) C0 rfl hP hD hS dX8_isFar_18
/-! ### SumsOverModel.isFarProduct(JJ)Z -/
theorem mwX8_isFarProduct_0 : (.methodLink RX8 201 Lib.MathLoose.abs_long.x : Cond) ∈ wsX8_isFarProduct := by decide +kernel
theorem mwX8_isFarProduct_1 : (.static Lib.MathLoose.abs_long.x : Cond) ∈ wsX8_isFarProduct := by decide +kernel
theorem mwX8_isFarProduct_2 : (.initialized "java/lang/Math" : Cond) ∈ wsX8_isFarProduct := by decide +kernel
theorem mwX8_isFarProduct_3 : (.code Lib.MathLoose.abs_long.x Lib.MathLoose.abs_long.code 2 (some .long) : Cond) ∈ wsX8_isFarProduct := by decide +kernel
theorem mwX8_isFarProduct_4 : (.constantLong RX8 199 (1099511627776) : Cond) ∈ wsX8_isFarProduct := by decide +kernel
def rmX8_isFarProduct : Room := { frames := 1, cells := 0, slots := 0, locals := 23 }
set_option maxHeartbeats 4000000 in
set_option maxRecDepth 100000 in
theorem kX8_isFarProduct (l : Launch) (D : va_G) (T : TyL) (W0 : va_W) (x0 : Int64) (x2 : Int64) (RES : Int32) (hres : mX8_isFarProduct x0 x2 = some RES) : CtI l yX8_isFarProduct wsX8_isFarProduct rmX8_isFarProduct D T W0 [.long x0, .long x2] RES W0 := by
  intro sz
  refine ct_entry (cc := cX8_isFarProduct) (maxL := 8) (ret := some .boolean) (own := RX8) (by decide) rfl rfl (Nat.le_of_ble_eq_true rfl) (ll := [(0, .long x0), (2, .long x2)]) rfl ?_
  intro p e s m args below meth c hsz C0 _ hP hD ls hl
  have C1 := C0
  obtain ⟨hx, hb, hr, hml, hown, hts, hlocks, hN, hK, hA⟩ := C1
  have hS : va_S (va_A W0 sz) s.heap s.heap [] := va_S.rf
  generalize va_A W0 sz = A at C0 hD hA hS ⊢
  show W p l e rmX8_isFarProduct s m args below meth c s.heap [] 0 0 (QI below args s A D T RES W0) (F0 m 0 ls [])
  unfold mX8_isFarProduct at hres
  refine lv_lload_n hx hb dX8_isFarProduct_0 rfl (lv_at hl 0 rfl) ?_
  refine va_mabs_long hx hb (hml.trans hl.1.symm) hown (hts _ mwX8_isFarProduct_0) (hts _ mwX8_isFarProduct_1) (hts _ mwX8_isFarProduct_2) (hts _ mwX8_isFarProduct_3) (Nat.le_of_ble_eq_true rfl) (Nat.le_of_ble_eq_true rfl) (Nat.zero_le _) (Nat.zero_le _) dX8_isFarProduct_1 ?_
  refine lv_lstore (lv' := [(4, .long (if 0 < x0 then x0 else -x0)), (0, .long x0), (2, .long x2)]) hx hb dX8_isFarProduct_4 hl (by decide) rfl (fun ls hl => ?_)
  refine lv_lload_n hx hb dX8_isFarProduct_6 rfl (lv_at hl 2 rfl) ?_
  refine va_mabs_long hx hb (hml.trans hl.1.symm) hown (hts _ mwX8_isFarProduct_0) (hts _ mwX8_isFarProduct_1) (hts _ mwX8_isFarProduct_2) (hts _ mwX8_isFarProduct_3) (Nat.le_of_ble_eq_true rfl) (Nat.le_of_ble_eq_true rfl) (Nat.zero_le _) (Nat.zero_le _) dX8_isFarProduct_7 ?_
  refine lv_lstore (lv' := [(6, .long (if 0 < x2 then x2 else -x2)), (4, .long (if 0 < x0 then x0 else -x0)), (0, .long x0), (2, .long x2)]) hx hb dX8_isFarProduct_10 hl (by decide) rfl (fun ls hl => ?_)
  refine lv_lload hx hb dX8_isFarProduct_12 (lv_at hl 1 rfl) ?_
  refine lv_lconst (v := (0 : Int64)) hx hb dX8_isFarProduct_14 (by decide) ?_
  refine W.lcmp hx hb dX8_isFarProduct_15 ?_
  refine lv_if_eq (tgt := 35) hx hb dX8_isFarProduct_16 (by decide) (fun c_1 => ?_) (fun c_1 => ?_)
  · rw [lg_cmp_eq] at c_1
    replace hres := mi_p c_1 hres
    refine lv_iconst (v := (0 : Int32)) hx hb dX8_isFarProduct_35 (by decide) ?_
    obtain rfl := Option.some.inj hres
    exact ret_I (r := (0 : Int32)) C0 rfl hP hD hS dX8_isFarProduct_36
  · rw [lg_cmp_eq] at c_1
    replace hres := mi_n c_1 hres
    refine lv_lload hx hb dX8_isFarProduct_19 (lv_at hl 0 rfl) ?_
    refine lv_ldc2 (own := RX8) (v := (1099511627776 : Int64)) hx hb hown (hts _ mwX8_isFarProduct_4) dX8_isFarProduct_21 ?_
    refine lv_lload hx hb dX8_isFarProduct_24 (lv_at hl 1 rfl) ?_
    obtain ⟨g_2, hres⟩ := mi_g hres
    refine lv_ldiv hx hb dX8_isFarProduct_26 g_2 ?_
    refine W.lcmp hx hb dX8_isFarProduct_27 ?_
    refine lv_if_le (tgt := 35) hx hb dX8_isFarProduct_28 (by decide) (fun c_3 => ?_) (fun c_3 => ?_)
    · rw [lg_cmp_le] at c_3
      replace hres := mi_p c_3 hres
      refine lv_iconst (v := (0 : Int32)) hx hb dX8_isFarProduct_35 (by decide) ?_
      obtain rfl := Option.some.inj hres
      exact ret_I (r := (0 : Int32)) C0 rfl hP hD hS dX8_isFarProduct_36
    · rw [lg_cmp_le] at c_3
      replace hres := mi_n c_3 hres
      refine lv_iconst (v := (1 : Int32)) hx hb dX8_isFarProduct_31 (by decide) ?_
      refine lv_goto (tgt := 36) hx hb dX8_isFarProduct_32 (by decide) ?_
      obtain rfl := Option.some.inj hres
      exact ret_I (r := (1 : Int32)) C0 rfl hP hD hS dX8_isFarProduct_36
