def pre (a : Nat) (u : Nat → Nat) : Nat → Nat := fun i => match i with
  | 0 => a
  | i + 1 => u i
def i_wd : Nat → Int32 := (upd (upd (upd (upd (upd (upd (fun _ => 0) (Int32.toNatClampNeg (0 : Int32)) 16) (Int32.toNatClampNeg (1 : Int32)) 16) (Int32.toNatClampNeg (2 : Int32)) 16) (Int32.toNatClampNeg (3 : Int32)) 16) (Int32.toNatClampNeg (4 : Int32)) 16) (Int32.toNatClampNeg (5 : Int32)) 16)
def i_sg : Nat → Int32 := (upd (upd (upd (upd (upd (upd (fun _ => 0) (Int32.toNatClampNeg (0 : Int32)) (vp_nar .boolean 1)) (Int32.toNatClampNeg (1 : Int32)) (vp_nar .boolean 1)) (Int32.toNatClampNeg (2 : Int32)) (vp_nar .boolean 1)) (Int32.toNatClampNeg (3 : Int32)) (vp_nar .boolean 1)) (Int32.toNatClampNeg (4 : Int32)) (vp_nar .boolean 1)) (Int32.toNatClampNeg (5 : Int32)) (vp_nar .boolean 1))
def i_lw : Nat → Int64 := (vp_updL (vp_updL (vp_updL (vp_updL (vp_updL (vp_updL (fun _ => 0) (Int32.toNatClampNeg (0 : Int32)) (-32768)) (Int32.toNatClampNeg (1 : Int32)) (-32768)) (Int32.toNatClampNeg (2 : Int32)) (-32768)) (Int32.toNatClampNeg (3 : Int32)) (-32768)) (Int32.toNatClampNeg (4 : Int32)) (-32768)) (Int32.toNatClampNeg (5 : Int32)) (-32768))
def i_hg : Nat → Int64 := (vp_updL (vp_updL (vp_updL (vp_updL (vp_updL (vp_updL (fun _ => 0) (Int32.toNatClampNeg (0 : Int32)) 32767) (Int32.toNatClampNeg (1 : Int32)) 32767) (Int32.toNatClampNeg (2 : Int32)) 32767) (Int32.toNatClampNeg (3 : Int32)) 32767) (Int32.toNatClampNeg (4 : Int32)) 32767) (Int32.toNatClampNeg (5 : Int32)) 32767)
theorem tell_ev {k : Int32} (hk : ¬ (k < 0 ∨ 6 ≤ Int32.toNatClampNeg k)) (wd sg : Nat → Int32) (lw hg : Nat → Int64) : mX1_tellN wd sg lw hg k 16 1 = some (upd wd (Int32.toNatClampNeg k) 16, upd sg (Int32.toNatClampNeg k) (vp_nar .boolean 1), vp_updL lw (Int32.toNatClampNeg k) (-32768), vp_updL hg (Int32.toNatClampNeg k) 32767) := by
  have e1 : mX7_leastOf 16 1 = some (-32768) := by decide +kernel
  have e2 : mX7_greatestOf 16 1 = some 32767 := by decide +kernel
  unfold mX1_tellN
  rw [if_neg hk, e1, Option.bind_some, e2, Option.bind_some]
/-! ### X0_init -/
theorem mwX0_init_0 : (.methodLink RX0 3 objectInit : Cond) ∈ wsX0_init := by decide +kernel
theorem mwX0_init_1 : (.instanceMethod objectInit : Cond) ∈ wsX0_init := by decide +kernel
theorem mwX0_init_2 : (.arrayClass .int : Cond) ∈ wsX0_init := by decide +kernel
theorem mwX0_init_3 : (.fieldLink RX0 9 "SumsOver$Inputs" "from" "[I" : Cond) ∈ wsX0_init := by decide +kernel
set_option maxRecDepth 20000 in
theorem hwX0_init_RX0 : ∀ w ∈ u_ws RX0 TX0 2, w ∈ wsX0_init := by decide +kernel
theorem mwX0_init_4 : (.fieldLink RX0 15 "SumsOver$Inputs" "to" "[I" : Cond) ∈ wsX0_init := by decide +kernel
def rmX0_init : Room := { frames := 1, cells := 2, slots := 4, locals := 12 }
set_option maxHeartbeats 8000000 in
set_option maxRecDepth 100000 in
theorem kX0_init (l : Launch) (dC : Nat → ClassId) (dI : Nat → Nat → Nat) (cI cJ cZ : ClassId) (a : Nat) : CtN l yX0_init wsX0_init rmX0_init (dC, dI) (ty3 cI cJ cZ) [(a, .inr (0, [.null, .null]))] [.ref a] (fun u => [(a, .inr (0, [.ref (u 0), .ref (u 1)])), ((u 0), .inl (cI, 2, .inl (fun _ => 0))), ((u 1), .inl (cI, 2, .inl (fun _ => 0)))]) 2 4 := by
  intro sz
  refine cn_entry (cc := cX0_init) (maxL := 1) (ret := none) (own := RX0) (by decide) rfl rfl (Nat.le_of_ble_eq_true rfl) (ll := [(0, .ref a)]) rfl ?_
  intro p e s m args below meth c hsz C0 hin hP hD ls hl
  have C1 := C0
  obtain ⟨hx, hb, hr, hml, hown, hts, hlocks, hN, hK, hA⟩ := C1
  have hS : va_S (va_A [(a, .inr (0, [.null, .null]))] sz) s.heap s.heap [] := va_S.rf
  generalize va_A [(a, .inr (0, [.null, .null]))] sz = A at C0 hD hA hS ⊢
  show W p l e rmX0_init s m args below meth c s.heap [] 0 0 (QN below args s A (dC, dI) (ty3 cI cJ cZ) (fun u => [(a, .inr (0, [.ref (u 0), .ref (u 1)])), ((u 0), .inl (cI, 2, .inl (fun _ => 0))), ((u 1), .inl (cI, 2, .inl (fun _ => 0)))]) 2 4) (F0 m 0 ls [])
  refine lv_aload_n hx hb dX0_init_0 rfl (lv_at hl 0 rfl) ?_
  refine W.objInit hx hb hown (hts _ mwX0_init_0) (hts _ mwX0_init_1) (hts _ (List.mem_of_getElem? (l := wsX0_init) (i := 3) rfl)) rfl (by rw [hml]; exact hl.1) rfl dX0_init_1 (Nat.le_of_ble_eq_true rfl) (Nat.le_of_ble_eq_true rfl) ?_
  refine W.eq (g2 := F0 m 4 ls []) rfl ?_
  refine lv_aload_n hx hb dX0_init_4 rfl (lv_at hl 0 rfl) ?_
  refine lv_iconst (v := (2 : Int32)) hx hb dX0_init_5 (by decide) ?_
  refine new_I C0 (hts _ mwX0_init_2) hP hD hS (N := 2) (by decide) (by decide) (by decide) (by decide) (by decide) dX0_init_6 (fun b1 H hP hD hS => ?_)
  have hP : va_P (dC, dI) vwCl [(a, .inr (0, [.null, .null])), (b1, .inl (cI, 2, .inl (fun _ => 0)))] H := hP
  have hD : va_D A [(a, .inr (0, [.null, .null])), (b1, .inl (cI, 2, .inl (fun _ => 0)))] := hD
  refine W.widen (k := 1) (n := 2) (by decide) (by decide) ?_
  refine va_putF (D := (dC, dI)) (ci := 0) (v := .ref b1) (ty := .array .int) (C := RX0) (T := TX0) (N := 2) hx hb hts hwX0_init_RX0 tyX0 tyX0_ok nmX0 hown hK hP hD hS 0 rfl rfl 0 (by decide) (hts _ mwX0_init_3) (fun _ h9 => h9) rfl hin rfl (by decide +kernel) rfl rfl (Nat.le_of_ble_eq_true rfl) dX0_init_8 (fun H locs hP hD hS => ?_)
  have hP : va_P (dC, dI) vwCl [(a, .inr (0, [.ref b1, .null])), (b1, .inl (cI, 2, .inl (fun _ => 0)))] H := hP
  have hD : va_D A [(a, .inr (0, [.ref b1, .null])), (b1, .inl (cI, 2, .inl (fun _ => 0)))] := hD
  refine lv_aload_n hx hb dX0_init_11 rfl (lv_at hl 0 rfl) ?_
  refine lv_iconst (v := (2 : Int32)) hx hb dX0_init_12 (by decide) ?_
  refine new_I C0 (hts _ mwX0_init_2) hP hD hS (N := 2) (by decide) (by decide) (by decide) (by decide) (by decide) dX0_init_13 (fun b2 H hP hD hS => ?_)
  have hP : va_P (dC, dI) vwCl [(a, .inr (0, [.ref b1, .null])), (b1, .inl (cI, 2, .inl (fun _ => 0))), (b2, .inl (cI, 2, .inl (fun _ => 0)))] H := hP
  have hD : va_D A [(a, .inr (0, [.ref b1, .null])), (b1, .inl (cI, 2, .inl (fun _ => 0))), (b2, .inl (cI, 2, .inl (fun _ => 0)))] := hD
  refine W.widen (k := 2) (n := 4) (by decide) (by decide) ?_
  refine va_putF (D := (dC, dI)) (ci := 0) (v := .ref b2) (ty := .array .int) (C := RX0) (T := TX0) (N := 2) hx hb hts hwX0_init_RX0 tyX0 tyX0_ok nmX0 hown hK hP hD hS 0 rfl rfl 1 (by decide) (hts _ mwX0_init_4) (fun _ h9 => h9) rfl hin rfl (by decide +kernel) rfl rfl (Nat.le_of_ble_eq_true rfl) dX0_init_15 (fun H locs hP hD hS => ?_)
  have hP : va_P (dC, dI) vwCl [(a, .inr (0, [.ref b1, .ref b2])), (b1, .inl (cI, 2, .inl (fun _ => 0))), (b2, .inl (cI, 2, .inl (fun _ => 0)))] H := hP
  have hD : va_D A [(a, .inr (0, [.ref b1, .ref b2])), (b1, .inl (cI, 2, .inl (fun _ => 0))), (b2, .inl (cI, 2, .inl (fun _ => 0)))] := hD
  exact ret_N (W1 := (fun u => [(a, .inr (0, [.ref (u 0), .ref (u 1)])), ((u 0), .inl (cI, 2, .inl (fun _ => 0))), ((u 1), .inl (cI, 2, .inl (fun _ => 0)))])) C0 (fun i => [b1, b2].getD i 0) hP hD hS dX0_init_18
/-! ### X1_init -/
theorem mwX1_init_0 : (.methodLink RX1 3 objectInit : Cond) ∈ wsX1_init := by decide +kernel
theorem mwX1_init_1 : (.instanceMethod objectInit : Cond) ∈ wsX1_init := by decide +kernel
theorem mwX1_init_2 : (.arrayClass .int : Cond) ∈ wsX1_init := by decide +kernel
theorem mwX1_init_3 : (.fieldLink RX1 9 "SumsOver$Names" "widths" "[I" : Cond) ∈ wsX1_init := by decide +kernel
set_option maxRecDepth 20000 in
theorem hwX1_init_RX1 : ∀ w ∈ u_ws RX1 TX1 5, w ∈ wsX1_init := by decide +kernel
theorem mwX1_init_4 : (.arrayClass .boolean : Cond) ∈ wsX1_init := by decide +kernel
theorem mwX1_init_5 : (.fieldLink RX1 15 "SumsOver$Names" "signs" "[Z" : Cond) ∈ wsX1_init := by decide +kernel
theorem mwX1_init_6 : (.arrayClass .long : Cond) ∈ wsX1_init := by decide +kernel
theorem mwX1_init_7 : (.fieldLink RX1 19 "SumsOver$Names" "least" "[J" : Cond) ∈ wsX1_init := by decide +kernel
theorem mwX1_init_8 : (.fieldLink RX1 23 "SumsOver$Names" "greatest" "[J" : Cond) ∈ wsX1_init := by decide +kernel
def rmX1_init : Room := { frames := 2, cells := 4, slots := 24, locals := 44 }
set_option maxHeartbeats 8000000 in
set_option maxRecDepth 100000 in
theorem kX1_init (l : Launch) (dC : Nat → ClassId) (dI : Nat → Nat → Nat) (cI cJ cZ : ClassId) (a : Nat) : CtN l yX1_init wsX1_init rmX1_init (dC, dI) (ty3 cI cJ cZ) [(a, .inr (1, [.null, .null, .null, .null, .int 0]))] [.ref a] (fun u => [(a, .inr (1, [.ref (u 0), .ref (u 1), .ref (u 2), .ref (u 3), .int 0])), ((u 0), .inl (cI, 6, .inl i_wd)), ((u 1), .inl (cZ, 6, .inl i_sg)), ((u 2), .inl (cJ, 6, .inr (.inl i_lw))), ((u 3), .inl (cJ, 6, .inr (.inl i_hg)))]) 4 24 := by
  intro sz
  refine cn_entry (cc := cX1_init) (maxL := 2) (ret := none) (own := RX1) (by decide) rfl rfl (Nat.le_of_ble_eq_true rfl) (ll := [(0, .ref a)]) rfl ?_
  intro p e s m args below meth c hsz C0 hin hP hD ls hl
  have C1 := C0
  obtain ⟨hx, hb, hr, hml, hown, hts, hlocks, hN, hK, hA⟩ := C1
  have hS : va_S (va_A [(a, .inr (1, [.null, .null, .null, .null, .int 0]))] sz) s.heap s.heap [] := va_S.rf
  generalize va_A [(a, .inr (1, [.null, .null, .null, .null, .int 0]))] sz = A at C0 hD hA hS ⊢
  show W p l e rmX1_init s m args below meth c s.heap [] 0 0 (QN below args s A (dC, dI) (ty3 cI cJ cZ) (fun u => [(a, .inr (1, [.ref (u 0), .ref (u 1), .ref (u 2), .ref (u 3), .int 0])), ((u 0), .inl (cI, 6, .inl i_wd)), ((u 1), .inl (cZ, 6, .inl i_sg)), ((u 2), .inl (cJ, 6, .inr (.inl i_lw))), ((u 3), .inl (cJ, 6, .inr (.inl i_hg)))]) 4 24) (F0 m 0 ls [])
  refine lv_aload_n hx hb dX1_init_0 rfl (lv_at hl 0 rfl) ?_
  refine W.objInit hx hb hown (hts _ mwX1_init_0) (hts _ mwX1_init_1) (hts _ (List.mem_of_getElem? (l := wsX1_init) (i := 3) rfl)) rfl (by rw [hml]; exact hl.1) rfl dX1_init_1 (Nat.le_of_ble_eq_true rfl) (Nat.le_of_ble_eq_true rfl) ?_
  refine W.eq (g2 := F0 m 4 ls []) rfl ?_
  refine lv_aload_n hx hb dX1_init_4 rfl (lv_at hl 0 rfl) ?_
  refine lv_bipush (v := (6 : Int32)) hx hb dX1_init_5 (by decide) ?_
  refine new_I C0 (hts _ mwX1_init_2) hP hD hS (N := 6) (by decide) (by decide) (by decide) (by decide) (by decide) dX1_init_7 (fun b1 H hP hD hS => ?_)
  have hP : va_P (dC, dI) vwCl [(a, .inr (1, [.null, .null, .null, .null, .int 0])), (b1, .inl (cI, 6, .inl (fun _ => 0)))] H := hP
  have hD : va_D A [(a, .inr (1, [.null, .null, .null, .null, .int 0])), (b1, .inl (cI, 6, .inl (fun _ => 0)))] := hD
  refine W.widen (k := 1) (n := 6) (by decide) (by decide) ?_
  refine va_putF (D := (dC, dI)) (ci := 1) (v := .ref b1) (ty := .array .int) (C := RX1) (T := TX1) (N := 5) hx hb hts hwX1_init_RX1 tyX1 tyX1_ok nmX1 hown hK hP hD hS 0 rfl rfl 0 (by decide) (hts _ mwX1_init_3) (fun _ h9 => h9) rfl hin rfl (by decide +kernel) rfl rfl (Nat.le_of_ble_eq_true rfl) dX1_init_9 (fun H locs hP hD hS => ?_)
  have hP : va_P (dC, dI) vwCl [(a, .inr (1, [.ref b1, .null, .null, .null, .int 0])), (b1, .inl (cI, 6, .inl (fun _ => 0)))] H := hP
  have hD : va_D A [(a, .inr (1, [.ref b1, .null, .null, .null, .int 0])), (b1, .inl (cI, 6, .inl (fun _ => 0)))] := hD
  refine lv_aload_n hx hb dX1_init_12 rfl (lv_at hl 0 rfl) ?_
  refine lv_bipush (v := (6 : Int32)) hx hb dX1_init_13 (by decide) ?_
  refine new_Z C0 (hts _ mwX1_init_4) hP hD hS (N := 6) (by decide) (by decide) (by decide) (by decide) (by decide) dX1_init_15 (fun b2 H hP hD hS => ?_)
  have hP : va_P (dC, dI) vwCl [(a, .inr (1, [.ref b1, .null, .null, .null, .int 0])), (b1, .inl (cI, 6, .inl (fun _ => 0))), (b2, .inl (cZ, 6, .inl (fun _ => 0)))] H := hP
  have hD : va_D A [(a, .inr (1, [.ref b1, .null, .null, .null, .int 0])), (b1, .inl (cI, 6, .inl (fun _ => 0))), (b2, .inl (cZ, 6, .inl (fun _ => 0)))] := hD
  refine W.widen (k := 2) (n := 12) (by decide) (by decide) ?_
  refine va_putF (D := (dC, dI)) (ci := 1) (v := .ref b2) (ty := .array .boolean) (C := RX1) (T := TX1) (N := 5) hx hb hts hwX1_init_RX1 tyX1 tyX1_ok nmX1 hown hK hP hD hS 0 rfl rfl 1 (by decide) (hts _ mwX1_init_5) (fun _ h9 => h9) rfl hin rfl (by decide +kernel) rfl rfl (Nat.le_of_ble_eq_true rfl) dX1_init_17 (fun H locs hP hD hS => ?_)
  have hP : va_P (dC, dI) vwCl [(a, .inr (1, [.ref b1, .ref b2, .null, .null, .int 0])), (b1, .inl (cI, 6, .inl (fun _ => 0))), (b2, .inl (cZ, 6, .inl (fun _ => 0)))] H := hP
  have hD : va_D A [(a, .inr (1, [.ref b1, .ref b2, .null, .null, .int 0])), (b1, .inl (cI, 6, .inl (fun _ => 0))), (b2, .inl (cZ, 6, .inl (fun _ => 0)))] := hD
  refine lv_aload_n hx hb dX1_init_20 rfl (lv_at hl 0 rfl) ?_
  refine lv_bipush (v := (6 : Int32)) hx hb dX1_init_21 (by decide) ?_
  refine new_J C0 (hts _ mwX1_init_6) hP hD hS (N := 6) (by decide) (by decide) (by decide) (by decide) (by decide) dX1_init_23 (fun b3 H hP hD hS => ?_)
  have hP : va_P (dC, dI) vwCl [(a, .inr (1, [.ref b1, .ref b2, .null, .null, .int 0])), (b1, .inl (cI, 6, .inl (fun _ => 0))), (b2, .inl (cZ, 6, .inl (fun _ => 0))), (b3, .inl (cJ, 6, .inr (.inl (fun _ => 0))))] H := hP
  have hD : va_D A [(a, .inr (1, [.ref b1, .ref b2, .null, .null, .int 0])), (b1, .inl (cI, 6, .inl (fun _ => 0))), (b2, .inl (cZ, 6, .inl (fun _ => 0))), (b3, .inl (cJ, 6, .inr (.inl (fun _ => 0))))] := hD
  refine W.widen (k := 3) (n := 18) (by decide) (by decide) ?_
  refine va_putF (D := (dC, dI)) (ci := 1) (v := .ref b3) (ty := .array .long) (C := RX1) (T := TX1) (N := 5) hx hb hts hwX1_init_RX1 tyX1 tyX1_ok nmX1 hown hK hP hD hS 0 rfl rfl 2 (by decide) (hts _ mwX1_init_7) (fun _ h9 => h9) rfl hin rfl (by decide +kernel) rfl rfl (Nat.le_of_ble_eq_true rfl) dX1_init_25 (fun H locs hP hD hS => ?_)
  have hP : va_P (dC, dI) vwCl [(a, .inr (1, [.ref b1, .ref b2, .ref b3, .null, .int 0])), (b1, .inl (cI, 6, .inl (fun _ => 0))), (b2, .inl (cZ, 6, .inl (fun _ => 0))), (b3, .inl (cJ, 6, .inr (.inl (fun _ => 0))))] H := hP
  have hD : va_D A [(a, .inr (1, [.ref b1, .ref b2, .ref b3, .null, .int 0])), (b1, .inl (cI, 6, .inl (fun _ => 0))), (b2, .inl (cZ, 6, .inl (fun _ => 0))), (b3, .inl (cJ, 6, .inr (.inl (fun _ => 0))))] := hD
  refine lv_aload_n hx hb dX1_init_28 rfl (lv_at hl 0 rfl) ?_
  refine lv_bipush (v := (6 : Int32)) hx hb dX1_init_29 (by decide) ?_
  refine new_J C0 (hts _ mwX1_init_6) hP hD hS (N := 6) (by decide) (by decide) (by decide) (by decide) (by decide) dX1_init_31 (fun b4 H hP hD hS => ?_)
  have hP : va_P (dC, dI) vwCl [(a, .inr (1, [.ref b1, .ref b2, .ref b3, .null, .int 0])), (b1, .inl (cI, 6, .inl (fun _ => 0))), (b2, .inl (cZ, 6, .inl (fun _ => 0))), (b3, .inl (cJ, 6, .inr (.inl (fun _ => 0)))), (b4, .inl (cJ, 6, .inr (.inl (fun _ => 0))))] H := hP
  have hD : va_D A [(a, .inr (1, [.ref b1, .ref b2, .ref b3, .null, .int 0])), (b1, .inl (cI, 6, .inl (fun _ => 0))), (b2, .inl (cZ, 6, .inl (fun _ => 0))), (b3, .inl (cJ, 6, .inr (.inl (fun _ => 0)))), (b4, .inl (cJ, 6, .inr (.inl (fun _ => 0))))] := hD
  refine W.widen (k := 4) (n := 24) (by decide) (by decide) ?_
  refine va_putF (D := (dC, dI)) (ci := 1) (v := .ref b4) (ty := .array .long) (C := RX1) (T := TX1) (N := 5) hx hb hts hwX1_init_RX1 tyX1 tyX1_ok nmX1 hown hK hP hD hS 0 rfl rfl 3 (by decide) (hts _ mwX1_init_8) (fun _ h9 => h9) rfl hin rfl (by decide +kernel) rfl rfl (Nat.le_of_ble_eq_true rfl) dX1_init_33 (fun H locs hP hD hS => ?_)
  have hP : va_P (dC, dI) vwCl [(a, .inr (1, [.ref b1, .ref b2, .ref b3, .ref b4, .int 0])), (b1, .inl (cI, 6, .inl (fun _ => 0))), (b2, .inl (cZ, 6, .inl (fun _ => 0))), (b3, .inl (cJ, 6, .inr (.inl (fun _ => 0)))), (b4, .inl (cJ, 6, .inr (.inl (fun _ => 0))))] H := hP
  have hD : va_D A [(a, .inr (1, [.ref b1, .ref b2, .ref b3, .ref b4, .int 0])), (b1, .inl (cI, 6, .inl (fun _ => 0))), (b2, .inl (cZ, 6, .inl (fun _ => 0))), (b3, .inl (cJ, 6, .inr (.inl (fun _ => 0)))), (b4, .inl (cJ, 6, .inr (.inl (fun _ => 0))))] := hD
  refine lv_iconst (v := (0 : Int32)) hx hb dX1_init_36 (by decide) ?_
  refine lv_istore_n (lv' := [(1, .int (0 : Int32)), (0, .ref a)]) hx hb dX1_init_37 rfl hl (by decide) rfl (fun ls hl => ?_)
  refine lv_iload_n hx hb dX1_init_38 rfl (lv_at hl 0 rfl) ?_
  refine lv_bipush (v := (6 : Int32)) hx hb dX1_init_39 (by decide) ?_
  refine lv_icmp_ge (tgt := 58) hx hb dX1_init_41 (by decide) (fun c9 => absurd c9 (show ¬ ((6 : Int32) ≤ (0 : Int32)) by decide)) (fun _ => ?_)
  refine lv_aload_n hx hb dX1_init_44 rfl (lv_at hl 1 rfl) ?_
  refine lv_iload_n hx hb dX1_init_45 rfl (lv_at hl 0 rfl) ?_
  refine lv_bipush (v := (16 : Int32)) hx hb dX1_init_46 (by decide) ?_
  refine lv_iconst (v := (1 : Int32)) hx hb dX1_init_48 (by decide) ?_
  have hP : va_P (dC, dI) vwCl (wN (fun i => [a, b1, b2, b3, b4].getD i 0) cI cJ cZ 0 (fun _ => 0) (fun _ => 0) (fun _ => 0) (fun _ => 0)) H := hP
  have hD : va_D A (wN (fun i => [a, b1, b2, b3, b4].getD i 0) cI cJ cZ 0 (fun _ => 0) (fun _ => 0) (fun _ => 0) (fun _ => 0)) := hD
  refine call_VW C0 (run_VW C0 (rest := []) (kX1_tellN l dC dI (fun i => [a, b1, b2, b3, b4].getD i 0) cI cJ cZ 0 (fun _ => 0) (fun _ => 0) (fun _ => 0) (fun _ => 0) 0 16 1 _ (tell_ev (by decide) _ _ _ _) _) (cwV 3 hts gX1_init_X1_tell rfl rfl rfl (by decide +kernel) ⟨by decide, by decide⟩) hP hD (ci := 1) (q0 := 0) rfl rfl rfl hl.1 rfl (Nat.le_of_ble_eq_true rfl) dX1_init_49 ⟨by decide, by decide⟩) hD hS (fun H locs hP hD hS => ?_)
  have hP : va_P (dC, dI) vwCl [(a, .inr (1, [.ref b1, .ref b2, .ref b3, .ref b4, .int 0])), (b1, .inl (cI, 6, .inl (upd (fun _ => 0) (Int32.toNatClampNeg (0 : Int32)) 16))), (b2, .inl (cZ, 6, .inl (upd (fun _ => 0) (Int32.toNatClampNeg (0 : Int32)) (vp_nar .boolean 1)))), (b3, .inl (cJ, 6, .inr (.inl (vp_updL (fun _ => 0) (Int32.toNatClampNeg (0 : Int32)) (-32768))))), (b4, .inl (cJ, 6, .inr (.inl (vp_updL (fun _ => 0) (Int32.toNatClampNeg (0 : Int32)) 32767))))] H := hP
  have hD : va_D A [(a, .inr (1, [.ref b1, .ref b2, .ref b3, .ref b4, .int 0])), (b1, .inl (cI, 6, .inl (upd (fun _ => 0) (Int32.toNatClampNeg (0 : Int32)) 16))), (b2, .inl (cZ, 6, .inl (upd (fun _ => 0) (Int32.toNatClampNeg (0 : Int32)) (vp_nar .boolean 1)))), (b3, .inl (cJ, 6, .inr (.inl (vp_updL (fun _ => 0) (Int32.toNatClampNeg (0 : Int32)) (-32768))))), (b4, .inl (cJ, 6, .inr (.inl (vp_updL (fun _ => 0) (Int32.toNatClampNeg (0 : Int32)) 32767))))] := hD
  refine lv_iinc (v := (1 : Int32)) (lv' := [(1, .int (1 : Int32)), (0, .ref a)]) hx hb dX1_init_52 hl (k := 0) rfl (by decide) (by decide) rfl (fun ls hl => ?_)
  refine lv_goto (tgt := 38) hx hb dX1_init_55 (by decide) ?_
  refine lv_iload_n hx hb dX1_init_38 rfl (lv_at hl 0 rfl) ?_
  refine lv_bipush (v := (6 : Int32)) hx hb dX1_init_39 (by decide) ?_
  refine lv_icmp_ge (tgt := 58) hx hb dX1_init_41 (by decide) (fun c9 => absurd c9 (show ¬ ((6 : Int32) ≤ (1 : Int32)) by decide)) (fun _ => ?_)
  refine lv_aload_n hx hb dX1_init_44 rfl (lv_at hl 1 rfl) ?_
  refine lv_iload_n hx hb dX1_init_45 rfl (lv_at hl 0 rfl) ?_
  refine lv_bipush (v := (16 : Int32)) hx hb dX1_init_46 (by decide) ?_
  refine lv_iconst (v := (1 : Int32)) hx hb dX1_init_48 (by decide) ?_
  have hP : va_P (dC, dI) vwCl (wN (fun i => [a, b1, b2, b3, b4].getD i 0) cI cJ cZ 0 (upd (fun _ => 0) (Int32.toNatClampNeg (0 : Int32)) 16) (upd (fun _ => 0) (Int32.toNatClampNeg (0 : Int32)) (vp_nar .boolean 1)) (vp_updL (fun _ => 0) (Int32.toNatClampNeg (0 : Int32)) (-32768)) (vp_updL (fun _ => 0) (Int32.toNatClampNeg (0 : Int32)) 32767)) H := hP
  have hD : va_D A (wN (fun i => [a, b1, b2, b3, b4].getD i 0) cI cJ cZ 0 (upd (fun _ => 0) (Int32.toNatClampNeg (0 : Int32)) 16) (upd (fun _ => 0) (Int32.toNatClampNeg (0 : Int32)) (vp_nar .boolean 1)) (vp_updL (fun _ => 0) (Int32.toNatClampNeg (0 : Int32)) (-32768)) (vp_updL (fun _ => 0) (Int32.toNatClampNeg (0 : Int32)) 32767)) := hD
  refine call_VW C0 (run_VW C0 (rest := []) (kX1_tellN l dC dI (fun i => [a, b1, b2, b3, b4].getD i 0) cI cJ cZ 0 (upd (fun _ => 0) (Int32.toNatClampNeg (0 : Int32)) 16) (upd (fun _ => 0) (Int32.toNatClampNeg (0 : Int32)) (vp_nar .boolean 1)) (vp_updL (fun _ => 0) (Int32.toNatClampNeg (0 : Int32)) (-32768)) (vp_updL (fun _ => 0) (Int32.toNatClampNeg (0 : Int32)) 32767) 1 16 1 _ (tell_ev (by decide) _ _ _ _) _) (cwV 3 hts gX1_init_X1_tell rfl rfl rfl (by decide +kernel) ⟨by decide, by decide⟩) hP hD (ci := 1) (q0 := 0) rfl rfl rfl hl.1 rfl (Nat.le_of_ble_eq_true rfl) dX1_init_49 ⟨by decide, by decide⟩) hD hS (fun H locs hP hD hS => ?_)
  have hP : va_P (dC, dI) vwCl [(a, .inr (1, [.ref b1, .ref b2, .ref b3, .ref b4, .int 0])), (b1, .inl (cI, 6, .inl (upd (upd (fun _ => 0) (Int32.toNatClampNeg (0 : Int32)) 16) (Int32.toNatClampNeg (1 : Int32)) 16))), (b2, .inl (cZ, 6, .inl (upd (upd (fun _ => 0) (Int32.toNatClampNeg (0 : Int32)) (vp_nar .boolean 1)) (Int32.toNatClampNeg (1 : Int32)) (vp_nar .boolean 1)))), (b3, .inl (cJ, 6, .inr (.inl (vp_updL (vp_updL (fun _ => 0) (Int32.toNatClampNeg (0 : Int32)) (-32768)) (Int32.toNatClampNeg (1 : Int32)) (-32768))))), (b4, .inl (cJ, 6, .inr (.inl (vp_updL (vp_updL (fun _ => 0) (Int32.toNatClampNeg (0 : Int32)) 32767) (Int32.toNatClampNeg (1 : Int32)) 32767))))] H := hP
  have hD : va_D A [(a, .inr (1, [.ref b1, .ref b2, .ref b3, .ref b4, .int 0])), (b1, .inl (cI, 6, .inl (upd (upd (fun _ => 0) (Int32.toNatClampNeg (0 : Int32)) 16) (Int32.toNatClampNeg (1 : Int32)) 16))), (b2, .inl (cZ, 6, .inl (upd (upd (fun _ => 0) (Int32.toNatClampNeg (0 : Int32)) (vp_nar .boolean 1)) (Int32.toNatClampNeg (1 : Int32)) (vp_nar .boolean 1)))), (b3, .inl (cJ, 6, .inr (.inl (vp_updL (vp_updL (fun _ => 0) (Int32.toNatClampNeg (0 : Int32)) (-32768)) (Int32.toNatClampNeg (1 : Int32)) (-32768))))), (b4, .inl (cJ, 6, .inr (.inl (vp_updL (vp_updL (fun _ => 0) (Int32.toNatClampNeg (0 : Int32)) 32767) (Int32.toNatClampNeg (1 : Int32)) 32767))))] := hD
  refine lv_iinc (v := (2 : Int32)) (lv' := [(1, .int (2 : Int32)), (0, .ref a)]) hx hb dX1_init_52 hl (k := 0) rfl (by decide) (by decide) rfl (fun ls hl => ?_)
  refine lv_goto (tgt := 38) hx hb dX1_init_55 (by decide) ?_
  refine lv_iload_n hx hb dX1_init_38 rfl (lv_at hl 0 rfl) ?_
  refine lv_bipush (v := (6 : Int32)) hx hb dX1_init_39 (by decide) ?_
  refine lv_icmp_ge (tgt := 58) hx hb dX1_init_41 (by decide) (fun c9 => absurd c9 (show ¬ ((6 : Int32) ≤ (2 : Int32)) by decide)) (fun _ => ?_)
  refine lv_aload_n hx hb dX1_init_44 rfl (lv_at hl 1 rfl) ?_
  refine lv_iload_n hx hb dX1_init_45 rfl (lv_at hl 0 rfl) ?_
  refine lv_bipush (v := (16 : Int32)) hx hb dX1_init_46 (by decide) ?_
  refine lv_iconst (v := (1 : Int32)) hx hb dX1_init_48 (by decide) ?_
  have hP : va_P (dC, dI) vwCl (wN (fun i => [a, b1, b2, b3, b4].getD i 0) cI cJ cZ 0 (upd (upd (fun _ => 0) (Int32.toNatClampNeg (0 : Int32)) 16) (Int32.toNatClampNeg (1 : Int32)) 16) (upd (upd (fun _ => 0) (Int32.toNatClampNeg (0 : Int32)) (vp_nar .boolean 1)) (Int32.toNatClampNeg (1 : Int32)) (vp_nar .boolean 1)) (vp_updL (vp_updL (fun _ => 0) (Int32.toNatClampNeg (0 : Int32)) (-32768)) (Int32.toNatClampNeg (1 : Int32)) (-32768)) (vp_updL (vp_updL (fun _ => 0) (Int32.toNatClampNeg (0 : Int32)) 32767) (Int32.toNatClampNeg (1 : Int32)) 32767)) H := hP
  have hD : va_D A (wN (fun i => [a, b1, b2, b3, b4].getD i 0) cI cJ cZ 0 (upd (upd (fun _ => 0) (Int32.toNatClampNeg (0 : Int32)) 16) (Int32.toNatClampNeg (1 : Int32)) 16) (upd (upd (fun _ => 0) (Int32.toNatClampNeg (0 : Int32)) (vp_nar .boolean 1)) (Int32.toNatClampNeg (1 : Int32)) (vp_nar .boolean 1)) (vp_updL (vp_updL (fun _ => 0) (Int32.toNatClampNeg (0 : Int32)) (-32768)) (Int32.toNatClampNeg (1 : Int32)) (-32768)) (vp_updL (vp_updL (fun _ => 0) (Int32.toNatClampNeg (0 : Int32)) 32767) (Int32.toNatClampNeg (1 : Int32)) 32767)) := hD
  refine call_VW C0 (run_VW C0 (rest := []) (kX1_tellN l dC dI (fun i => [a, b1, b2, b3, b4].getD i 0) cI cJ cZ 0 (upd (upd (fun _ => 0) (Int32.toNatClampNeg (0 : Int32)) 16) (Int32.toNatClampNeg (1 : Int32)) 16) (upd (upd (fun _ => 0) (Int32.toNatClampNeg (0 : Int32)) (vp_nar .boolean 1)) (Int32.toNatClampNeg (1 : Int32)) (vp_nar .boolean 1)) (vp_updL (vp_updL (fun _ => 0) (Int32.toNatClampNeg (0 : Int32)) (-32768)) (Int32.toNatClampNeg (1 : Int32)) (-32768)) (vp_updL (vp_updL (fun _ => 0) (Int32.toNatClampNeg (0 : Int32)) 32767) (Int32.toNatClampNeg (1 : Int32)) 32767) 2 16 1 _ (tell_ev (by decide) _ _ _ _) _) (cwV 3 hts gX1_init_X1_tell rfl rfl rfl (by decide +kernel) ⟨by decide, by decide⟩) hP hD (ci := 1) (q0 := 0) rfl rfl rfl hl.1 rfl (Nat.le_of_ble_eq_true rfl) dX1_init_49 ⟨by decide, by decide⟩) hD hS (fun H locs hP hD hS => ?_)
  have hP : va_P (dC, dI) vwCl [(a, .inr (1, [.ref b1, .ref b2, .ref b3, .ref b4, .int 0])), (b1, .inl (cI, 6, .inl (upd (upd (upd (fun _ => 0) (Int32.toNatClampNeg (0 : Int32)) 16) (Int32.toNatClampNeg (1 : Int32)) 16) (Int32.toNatClampNeg (2 : Int32)) 16))), (b2, .inl (cZ, 6, .inl (upd (upd (upd (fun _ => 0) (Int32.toNatClampNeg (0 : Int32)) (vp_nar .boolean 1)) (Int32.toNatClampNeg (1 : Int32)) (vp_nar .boolean 1)) (Int32.toNatClampNeg (2 : Int32)) (vp_nar .boolean 1)))), (b3, .inl (cJ, 6, .inr (.inl (vp_updL (vp_updL (vp_updL (fun _ => 0) (Int32.toNatClampNeg (0 : Int32)) (-32768)) (Int32.toNatClampNeg (1 : Int32)) (-32768)) (Int32.toNatClampNeg (2 : Int32)) (-32768))))), (b4, .inl (cJ, 6, .inr (.inl (vp_updL (vp_updL (vp_updL (fun _ => 0) (Int32.toNatClampNeg (0 : Int32)) 32767) (Int32.toNatClampNeg (1 : Int32)) 32767) (Int32.toNatClampNeg (2 : Int32)) 32767))))] H := hP
  have hD : va_D A [(a, .inr (1, [.ref b1, .ref b2, .ref b3, .ref b4, .int 0])), (b1, .inl (cI, 6, .inl (upd (upd (upd (fun _ => 0) (Int32.toNatClampNeg (0 : Int32)) 16) (Int32.toNatClampNeg (1 : Int32)) 16) (Int32.toNatClampNeg (2 : Int32)) 16))), (b2, .inl (cZ, 6, .inl (upd (upd (upd (fun _ => 0) (Int32.toNatClampNeg (0 : Int32)) (vp_nar .boolean 1)) (Int32.toNatClampNeg (1 : Int32)) (vp_nar .boolean 1)) (Int32.toNatClampNeg (2 : Int32)) (vp_nar .boolean 1)))), (b3, .inl (cJ, 6, .inr (.inl (vp_updL (vp_updL (vp_updL (fun _ => 0) (Int32.toNatClampNeg (0 : Int32)) (-32768)) (Int32.toNatClampNeg (1 : Int32)) (-32768)) (Int32.toNatClampNeg (2 : Int32)) (-32768))))), (b4, .inl (cJ, 6, .inr (.inl (vp_updL (vp_updL (vp_updL (fun _ => 0) (Int32.toNatClampNeg (0 : Int32)) 32767) (Int32.toNatClampNeg (1 : Int32)) 32767) (Int32.toNatClampNeg (2 : Int32)) 32767))))] := hD
  refine lv_iinc (v := (3 : Int32)) (lv' := [(1, .int (3 : Int32)), (0, .ref a)]) hx hb dX1_init_52 hl (k := 0) rfl (by decide) (by decide) rfl (fun ls hl => ?_)
  refine lv_goto (tgt := 38) hx hb dX1_init_55 (by decide) ?_
  refine lv_iload_n hx hb dX1_init_38 rfl (lv_at hl 0 rfl) ?_
  refine lv_bipush (v := (6 : Int32)) hx hb dX1_init_39 (by decide) ?_
  refine lv_icmp_ge (tgt := 58) hx hb dX1_init_41 (by decide) (fun c9 => absurd c9 (show ¬ ((6 : Int32) ≤ (3 : Int32)) by decide)) (fun _ => ?_)
  refine lv_aload_n hx hb dX1_init_44 rfl (lv_at hl 1 rfl) ?_
  refine lv_iload_n hx hb dX1_init_45 rfl (lv_at hl 0 rfl) ?_
  refine lv_bipush (v := (16 : Int32)) hx hb dX1_init_46 (by decide) ?_
  refine lv_iconst (v := (1 : Int32)) hx hb dX1_init_48 (by decide) ?_
  have hP : va_P (dC, dI) vwCl (wN (fun i => [a, b1, b2, b3, b4].getD i 0) cI cJ cZ 0 (upd (upd (upd (fun _ => 0) (Int32.toNatClampNeg (0 : Int32)) 16) (Int32.toNatClampNeg (1 : Int32)) 16) (Int32.toNatClampNeg (2 : Int32)) 16) (upd (upd (upd (fun _ => 0) (Int32.toNatClampNeg (0 : Int32)) (vp_nar .boolean 1)) (Int32.toNatClampNeg (1 : Int32)) (vp_nar .boolean 1)) (Int32.toNatClampNeg (2 : Int32)) (vp_nar .boolean 1)) (vp_updL (vp_updL (vp_updL (fun _ => 0) (Int32.toNatClampNeg (0 : Int32)) (-32768)) (Int32.toNatClampNeg (1 : Int32)) (-32768)) (Int32.toNatClampNeg (2 : Int32)) (-32768)) (vp_updL (vp_updL (vp_updL (fun _ => 0) (Int32.toNatClampNeg (0 : Int32)) 32767) (Int32.toNatClampNeg (1 : Int32)) 32767) (Int32.toNatClampNeg (2 : Int32)) 32767)) H := hP
  have hD : va_D A (wN (fun i => [a, b1, b2, b3, b4].getD i 0) cI cJ cZ 0 (upd (upd (upd (fun _ => 0) (Int32.toNatClampNeg (0 : Int32)) 16) (Int32.toNatClampNeg (1 : Int32)) 16) (Int32.toNatClampNeg (2 : Int32)) 16) (upd (upd (upd (fun _ => 0) (Int32.toNatClampNeg (0 : Int32)) (vp_nar .boolean 1)) (Int32.toNatClampNeg (1 : Int32)) (vp_nar .boolean 1)) (Int32.toNatClampNeg (2 : Int32)) (vp_nar .boolean 1)) (vp_updL (vp_updL (vp_updL (fun _ => 0) (Int32.toNatClampNeg (0 : Int32)) (-32768)) (Int32.toNatClampNeg (1 : Int32)) (-32768)) (Int32.toNatClampNeg (2 : Int32)) (-32768)) (vp_updL (vp_updL (vp_updL (fun _ => 0) (Int32.toNatClampNeg (0 : Int32)) 32767) (Int32.toNatClampNeg (1 : Int32)) 32767) (Int32.toNatClampNeg (2 : Int32)) 32767)) := hD
  refine call_VW C0 (run_VW C0 (rest := []) (kX1_tellN l dC dI (fun i => [a, b1, b2, b3, b4].getD i 0) cI cJ cZ 0 (upd (upd (upd (fun _ => 0) (Int32.toNatClampNeg (0 : Int32)) 16) (Int32.toNatClampNeg (1 : Int32)) 16) (Int32.toNatClampNeg (2 : Int32)) 16) (upd (upd (upd (fun _ => 0) (Int32.toNatClampNeg (0 : Int32)) (vp_nar .boolean 1)) (Int32.toNatClampNeg (1 : Int32)) (vp_nar .boolean 1)) (Int32.toNatClampNeg (2 : Int32)) (vp_nar .boolean 1)) (vp_updL (vp_updL (vp_updL (fun _ => 0) (Int32.toNatClampNeg (0 : Int32)) (-32768)) (Int32.toNatClampNeg (1 : Int32)) (-32768)) (Int32.toNatClampNeg (2 : Int32)) (-32768)) (vp_updL (vp_updL (vp_updL (fun _ => 0) (Int32.toNatClampNeg (0 : Int32)) 32767) (Int32.toNatClampNeg (1 : Int32)) 32767) (Int32.toNatClampNeg (2 : Int32)) 32767) 3 16 1 _ (tell_ev (by decide) _ _ _ _) _) (cwV 3 hts gX1_init_X1_tell rfl rfl rfl (by decide +kernel) ⟨by decide, by decide⟩) hP hD (ci := 1) (q0 := 0) rfl rfl rfl hl.1 rfl (Nat.le_of_ble_eq_true rfl) dX1_init_49 ⟨by decide, by decide⟩) hD hS (fun H locs hP hD hS => ?_)
  have hP : va_P (dC, dI) vwCl [(a, .inr (1, [.ref b1, .ref b2, .ref b3, .ref b4, .int 0])), (b1, .inl (cI, 6, .inl (upd (upd (upd (upd (fun _ => 0) (Int32.toNatClampNeg (0 : Int32)) 16) (Int32.toNatClampNeg (1 : Int32)) 16) (Int32.toNatClampNeg (2 : Int32)) 16) (Int32.toNatClampNeg (3 : Int32)) 16))), (b2, .inl (cZ, 6, .inl (upd (upd (upd (upd (fun _ => 0) (Int32.toNatClampNeg (0 : Int32)) (vp_nar .boolean 1)) (Int32.toNatClampNeg (1 : Int32)) (vp_nar .boolean 1)) (Int32.toNatClampNeg (2 : Int32)) (vp_nar .boolean 1)) (Int32.toNatClampNeg (3 : Int32)) (vp_nar .boolean 1)))), (b3, .inl (cJ, 6, .inr (.inl (vp_updL (vp_updL (vp_updL (vp_updL (fun _ => 0) (Int32.toNatClampNeg (0 : Int32)) (-32768)) (Int32.toNatClampNeg (1 : Int32)) (-32768)) (Int32.toNatClampNeg (2 : Int32)) (-32768)) (Int32.toNatClampNeg (3 : Int32)) (-32768))))), (b4, .inl (cJ, 6, .inr (.inl (vp_updL (vp_updL (vp_updL (vp_updL (fun _ => 0) (Int32.toNatClampNeg (0 : Int32)) 32767) (Int32.toNatClampNeg (1 : Int32)) 32767) (Int32.toNatClampNeg (2 : Int32)) 32767) (Int32.toNatClampNeg (3 : Int32)) 32767))))] H := hP
  have hD : va_D A [(a, .inr (1, [.ref b1, .ref b2, .ref b3, .ref b4, .int 0])), (b1, .inl (cI, 6, .inl (upd (upd (upd (upd (fun _ => 0) (Int32.toNatClampNeg (0 : Int32)) 16) (Int32.toNatClampNeg (1 : Int32)) 16) (Int32.toNatClampNeg (2 : Int32)) 16) (Int32.toNatClampNeg (3 : Int32)) 16))), (b2, .inl (cZ, 6, .inl (upd (upd (upd (upd (fun _ => 0) (Int32.toNatClampNeg (0 : Int32)) (vp_nar .boolean 1)) (Int32.toNatClampNeg (1 : Int32)) (vp_nar .boolean 1)) (Int32.toNatClampNeg (2 : Int32)) (vp_nar .boolean 1)) (Int32.toNatClampNeg (3 : Int32)) (vp_nar .boolean 1)))), (b3, .inl (cJ, 6, .inr (.inl (vp_updL (vp_updL (vp_updL (vp_updL (fun _ => 0) (Int32.toNatClampNeg (0 : Int32)) (-32768)) (Int32.toNatClampNeg (1 : Int32)) (-32768)) (Int32.toNatClampNeg (2 : Int32)) (-32768)) (Int32.toNatClampNeg (3 : Int32)) (-32768))))), (b4, .inl (cJ, 6, .inr (.inl (vp_updL (vp_updL (vp_updL (vp_updL (fun _ => 0) (Int32.toNatClampNeg (0 : Int32)) 32767) (Int32.toNatClampNeg (1 : Int32)) 32767) (Int32.toNatClampNeg (2 : Int32)) 32767) (Int32.toNatClampNeg (3 : Int32)) 32767))))] := hD
  refine lv_iinc (v := (4 : Int32)) (lv' := [(1, .int (4 : Int32)), (0, .ref a)]) hx hb dX1_init_52 hl (k := 0) rfl (by decide) (by decide) rfl (fun ls hl => ?_)
  refine lv_goto (tgt := 38) hx hb dX1_init_55 (by decide) ?_
  refine lv_iload_n hx hb dX1_init_38 rfl (lv_at hl 0 rfl) ?_
  refine lv_bipush (v := (6 : Int32)) hx hb dX1_init_39 (by decide) ?_
  refine lv_icmp_ge (tgt := 58) hx hb dX1_init_41 (by decide) (fun c9 => absurd c9 (show ¬ ((6 : Int32) ≤ (4 : Int32)) by decide)) (fun _ => ?_)
  refine lv_aload_n hx hb dX1_init_44 rfl (lv_at hl 1 rfl) ?_
  refine lv_iload_n hx hb dX1_init_45 rfl (lv_at hl 0 rfl) ?_
  refine lv_bipush (v := (16 : Int32)) hx hb dX1_init_46 (by decide) ?_
  refine lv_iconst (v := (1 : Int32)) hx hb dX1_init_48 (by decide) ?_
  have hP : va_P (dC, dI) vwCl (wN (fun i => [a, b1, b2, b3, b4].getD i 0) cI cJ cZ 0 (upd (upd (upd (upd (fun _ => 0) (Int32.toNatClampNeg (0 : Int32)) 16) (Int32.toNatClampNeg (1 : Int32)) 16) (Int32.toNatClampNeg (2 : Int32)) 16) (Int32.toNatClampNeg (3 : Int32)) 16) (upd (upd (upd (upd (fun _ => 0) (Int32.toNatClampNeg (0 : Int32)) (vp_nar .boolean 1)) (Int32.toNatClampNeg (1 : Int32)) (vp_nar .boolean 1)) (Int32.toNatClampNeg (2 : Int32)) (vp_nar .boolean 1)) (Int32.toNatClampNeg (3 : Int32)) (vp_nar .boolean 1)) (vp_updL (vp_updL (vp_updL (vp_updL (fun _ => 0) (Int32.toNatClampNeg (0 : Int32)) (-32768)) (Int32.toNatClampNeg (1 : Int32)) (-32768)) (Int32.toNatClampNeg (2 : Int32)) (-32768)) (Int32.toNatClampNeg (3 : Int32)) (-32768)) (vp_updL (vp_updL (vp_updL (vp_updL (fun _ => 0) (Int32.toNatClampNeg (0 : Int32)) 32767) (Int32.toNatClampNeg (1 : Int32)) 32767) (Int32.toNatClampNeg (2 : Int32)) 32767) (Int32.toNatClampNeg (3 : Int32)) 32767)) H := hP
  have hD : va_D A (wN (fun i => [a, b1, b2, b3, b4].getD i 0) cI cJ cZ 0 (upd (upd (upd (upd (fun _ => 0) (Int32.toNatClampNeg (0 : Int32)) 16) (Int32.toNatClampNeg (1 : Int32)) 16) (Int32.toNatClampNeg (2 : Int32)) 16) (Int32.toNatClampNeg (3 : Int32)) 16) (upd (upd (upd (upd (fun _ => 0) (Int32.toNatClampNeg (0 : Int32)) (vp_nar .boolean 1)) (Int32.toNatClampNeg (1 : Int32)) (vp_nar .boolean 1)) (Int32.toNatClampNeg (2 : Int32)) (vp_nar .boolean 1)) (Int32.toNatClampNeg (3 : Int32)) (vp_nar .boolean 1)) (vp_updL (vp_updL (vp_updL (vp_updL (fun _ => 0) (Int32.toNatClampNeg (0 : Int32)) (-32768)) (Int32.toNatClampNeg (1 : Int32)) (-32768)) (Int32.toNatClampNeg (2 : Int32)) (-32768)) (Int32.toNatClampNeg (3 : Int32)) (-32768)) (vp_updL (vp_updL (vp_updL (vp_updL (fun _ => 0) (Int32.toNatClampNeg (0 : Int32)) 32767) (Int32.toNatClampNeg (1 : Int32)) 32767) (Int32.toNatClampNeg (2 : Int32)) 32767) (Int32.toNatClampNeg (3 : Int32)) 32767)) := hD
  refine call_VW C0 (run_VW C0 (rest := []) (kX1_tellN l dC dI (fun i => [a, b1, b2, b3, b4].getD i 0) cI cJ cZ 0 (upd (upd (upd (upd (fun _ => 0) (Int32.toNatClampNeg (0 : Int32)) 16) (Int32.toNatClampNeg (1 : Int32)) 16) (Int32.toNatClampNeg (2 : Int32)) 16) (Int32.toNatClampNeg (3 : Int32)) 16) (upd (upd (upd (upd (fun _ => 0) (Int32.toNatClampNeg (0 : Int32)) (vp_nar .boolean 1)) (Int32.toNatClampNeg (1 : Int32)) (vp_nar .boolean 1)) (Int32.toNatClampNeg (2 : Int32)) (vp_nar .boolean 1)) (Int32.toNatClampNeg (3 : Int32)) (vp_nar .boolean 1)) (vp_updL (vp_updL (vp_updL (vp_updL (fun _ => 0) (Int32.toNatClampNeg (0 : Int32)) (-32768)) (Int32.toNatClampNeg (1 : Int32)) (-32768)) (Int32.toNatClampNeg (2 : Int32)) (-32768)) (Int32.toNatClampNeg (3 : Int32)) (-32768)) (vp_updL (vp_updL (vp_updL (vp_updL (fun _ => 0) (Int32.toNatClampNeg (0 : Int32)) 32767) (Int32.toNatClampNeg (1 : Int32)) 32767) (Int32.toNatClampNeg (2 : Int32)) 32767) (Int32.toNatClampNeg (3 : Int32)) 32767) 4 16 1 _ (tell_ev (by decide) _ _ _ _) _) (cwV 3 hts gX1_init_X1_tell rfl rfl rfl (by decide +kernel) ⟨by decide, by decide⟩) hP hD (ci := 1) (q0 := 0) rfl rfl rfl hl.1 rfl (Nat.le_of_ble_eq_true rfl) dX1_init_49 ⟨by decide, by decide⟩) hD hS (fun H locs hP hD hS => ?_)
  have hP : va_P (dC, dI) vwCl [(a, .inr (1, [.ref b1, .ref b2, .ref b3, .ref b4, .int 0])), (b1, .inl (cI, 6, .inl (upd (upd (upd (upd (upd (fun _ => 0) (Int32.toNatClampNeg (0 : Int32)) 16) (Int32.toNatClampNeg (1 : Int32)) 16) (Int32.toNatClampNeg (2 : Int32)) 16) (Int32.toNatClampNeg (3 : Int32)) 16) (Int32.toNatClampNeg (4 : Int32)) 16))), (b2, .inl (cZ, 6, .inl (upd (upd (upd (upd (upd (fun _ => 0) (Int32.toNatClampNeg (0 : Int32)) (vp_nar .boolean 1)) (Int32.toNatClampNeg (1 : Int32)) (vp_nar .boolean 1)) (Int32.toNatClampNeg (2 : Int32)) (vp_nar .boolean 1)) (Int32.toNatClampNeg (3 : Int32)) (vp_nar .boolean 1)) (Int32.toNatClampNeg (4 : Int32)) (vp_nar .boolean 1)))), (b3, .inl (cJ, 6, .inr (.inl (vp_updL (vp_updL (vp_updL (vp_updL (vp_updL (fun _ => 0) (Int32.toNatClampNeg (0 : Int32)) (-32768)) (Int32.toNatClampNeg (1 : Int32)) (-32768)) (Int32.toNatClampNeg (2 : Int32)) (-32768)) (Int32.toNatClampNeg (3 : Int32)) (-32768)) (Int32.toNatClampNeg (4 : Int32)) (-32768))))), (b4, .inl (cJ, 6, .inr (.inl (vp_updL (vp_updL (vp_updL (vp_updL (vp_updL (fun _ => 0) (Int32.toNatClampNeg (0 : Int32)) 32767) (Int32.toNatClampNeg (1 : Int32)) 32767) (Int32.toNatClampNeg (2 : Int32)) 32767) (Int32.toNatClampNeg (3 : Int32)) 32767) (Int32.toNatClampNeg (4 : Int32)) 32767))))] H := hP
  have hD : va_D A [(a, .inr (1, [.ref b1, .ref b2, .ref b3, .ref b4, .int 0])), (b1, .inl (cI, 6, .inl (upd (upd (upd (upd (upd (fun _ => 0) (Int32.toNatClampNeg (0 : Int32)) 16) (Int32.toNatClampNeg (1 : Int32)) 16) (Int32.toNatClampNeg (2 : Int32)) 16) (Int32.toNatClampNeg (3 : Int32)) 16) (Int32.toNatClampNeg (4 : Int32)) 16))), (b2, .inl (cZ, 6, .inl (upd (upd (upd (upd (upd (fun _ => 0) (Int32.toNatClampNeg (0 : Int32)) (vp_nar .boolean 1)) (Int32.toNatClampNeg (1 : Int32)) (vp_nar .boolean 1)) (Int32.toNatClampNeg (2 : Int32)) (vp_nar .boolean 1)) (Int32.toNatClampNeg (3 : Int32)) (vp_nar .boolean 1)) (Int32.toNatClampNeg (4 : Int32)) (vp_nar .boolean 1)))), (b3, .inl (cJ, 6, .inr (.inl (vp_updL (vp_updL (vp_updL (vp_updL (vp_updL (fun _ => 0) (Int32.toNatClampNeg (0 : Int32)) (-32768)) (Int32.toNatClampNeg (1 : Int32)) (-32768)) (Int32.toNatClampNeg (2 : Int32)) (-32768)) (Int32.toNatClampNeg (3 : Int32)) (-32768)) (Int32.toNatClampNeg (4 : Int32)) (-32768))))), (b4, .inl (cJ, 6, .inr (.inl (vp_updL (vp_updL (vp_updL (vp_updL (vp_updL (fun _ => 0) (Int32.toNatClampNeg (0 : Int32)) 32767) (Int32.toNatClampNeg (1 : Int32)) 32767) (Int32.toNatClampNeg (2 : Int32)) 32767) (Int32.toNatClampNeg (3 : Int32)) 32767) (Int32.toNatClampNeg (4 : Int32)) 32767))))] := hD
  refine lv_iinc (v := (5 : Int32)) (lv' := [(1, .int (5 : Int32)), (0, .ref a)]) hx hb dX1_init_52 hl (k := 0) rfl (by decide) (by decide) rfl (fun ls hl => ?_)
  refine lv_goto (tgt := 38) hx hb dX1_init_55 (by decide) ?_
  refine lv_iload_n hx hb dX1_init_38 rfl (lv_at hl 0 rfl) ?_
  refine lv_bipush (v := (6 : Int32)) hx hb dX1_init_39 (by decide) ?_
  refine lv_icmp_ge (tgt := 58) hx hb dX1_init_41 (by decide) (fun c9 => absurd c9 (show ¬ ((6 : Int32) ≤ (5 : Int32)) by decide)) (fun _ => ?_)
  refine lv_aload_n hx hb dX1_init_44 rfl (lv_at hl 1 rfl) ?_
  refine lv_iload_n hx hb dX1_init_45 rfl (lv_at hl 0 rfl) ?_
  refine lv_bipush (v := (16 : Int32)) hx hb dX1_init_46 (by decide) ?_
  refine lv_iconst (v := (1 : Int32)) hx hb dX1_init_48 (by decide) ?_
  have hP : va_P (dC, dI) vwCl (wN (fun i => [a, b1, b2, b3, b4].getD i 0) cI cJ cZ 0 (upd (upd (upd (upd (upd (fun _ => 0) (Int32.toNatClampNeg (0 : Int32)) 16) (Int32.toNatClampNeg (1 : Int32)) 16) (Int32.toNatClampNeg (2 : Int32)) 16) (Int32.toNatClampNeg (3 : Int32)) 16) (Int32.toNatClampNeg (4 : Int32)) 16) (upd (upd (upd (upd (upd (fun _ => 0) (Int32.toNatClampNeg (0 : Int32)) (vp_nar .boolean 1)) (Int32.toNatClampNeg (1 : Int32)) (vp_nar .boolean 1)) (Int32.toNatClampNeg (2 : Int32)) (vp_nar .boolean 1)) (Int32.toNatClampNeg (3 : Int32)) (vp_nar .boolean 1)) (Int32.toNatClampNeg (4 : Int32)) (vp_nar .boolean 1)) (vp_updL (vp_updL (vp_updL (vp_updL (vp_updL (fun _ => 0) (Int32.toNatClampNeg (0 : Int32)) (-32768)) (Int32.toNatClampNeg (1 : Int32)) (-32768)) (Int32.toNatClampNeg (2 : Int32)) (-32768)) (Int32.toNatClampNeg (3 : Int32)) (-32768)) (Int32.toNatClampNeg (4 : Int32)) (-32768)) (vp_updL (vp_updL (vp_updL (vp_updL (vp_updL (fun _ => 0) (Int32.toNatClampNeg (0 : Int32)) 32767) (Int32.toNatClampNeg (1 : Int32)) 32767) (Int32.toNatClampNeg (2 : Int32)) 32767) (Int32.toNatClampNeg (3 : Int32)) 32767) (Int32.toNatClampNeg (4 : Int32)) 32767)) H := hP
  have hD : va_D A (wN (fun i => [a, b1, b2, b3, b4].getD i 0) cI cJ cZ 0 (upd (upd (upd (upd (upd (fun _ => 0) (Int32.toNatClampNeg (0 : Int32)) 16) (Int32.toNatClampNeg (1 : Int32)) 16) (Int32.toNatClampNeg (2 : Int32)) 16) (Int32.toNatClampNeg (3 : Int32)) 16) (Int32.toNatClampNeg (4 : Int32)) 16) (upd (upd (upd (upd (upd (fun _ => 0) (Int32.toNatClampNeg (0 : Int32)) (vp_nar .boolean 1)) (Int32.toNatClampNeg (1 : Int32)) (vp_nar .boolean 1)) (Int32.toNatClampNeg (2 : Int32)) (vp_nar .boolean 1)) (Int32.toNatClampNeg (3 : Int32)) (vp_nar .boolean 1)) (Int32.toNatClampNeg (4 : Int32)) (vp_nar .boolean 1)) (vp_updL (vp_updL (vp_updL (vp_updL (vp_updL (fun _ => 0) (Int32.toNatClampNeg (0 : Int32)) (-32768)) (Int32.toNatClampNeg (1 : Int32)) (-32768)) (Int32.toNatClampNeg (2 : Int32)) (-32768)) (Int32.toNatClampNeg (3 : Int32)) (-32768)) (Int32.toNatClampNeg (4 : Int32)) (-32768)) (vp_updL (vp_updL (vp_updL (vp_updL (vp_updL (fun _ => 0) (Int32.toNatClampNeg (0 : Int32)) 32767) (Int32.toNatClampNeg (1 : Int32)) 32767) (Int32.toNatClampNeg (2 : Int32)) 32767) (Int32.toNatClampNeg (3 : Int32)) 32767) (Int32.toNatClampNeg (4 : Int32)) 32767)) := hD
  refine call_VW C0 (run_VW C0 (rest := []) (kX1_tellN l dC dI (fun i => [a, b1, b2, b3, b4].getD i 0) cI cJ cZ 0 (upd (upd (upd (upd (upd (fun _ => 0) (Int32.toNatClampNeg (0 : Int32)) 16) (Int32.toNatClampNeg (1 : Int32)) 16) (Int32.toNatClampNeg (2 : Int32)) 16) (Int32.toNatClampNeg (3 : Int32)) 16) (Int32.toNatClampNeg (4 : Int32)) 16) (upd (upd (upd (upd (upd (fun _ => 0) (Int32.toNatClampNeg (0 : Int32)) (vp_nar .boolean 1)) (Int32.toNatClampNeg (1 : Int32)) (vp_nar .boolean 1)) (Int32.toNatClampNeg (2 : Int32)) (vp_nar .boolean 1)) (Int32.toNatClampNeg (3 : Int32)) (vp_nar .boolean 1)) (Int32.toNatClampNeg (4 : Int32)) (vp_nar .boolean 1)) (vp_updL (vp_updL (vp_updL (vp_updL (vp_updL (fun _ => 0) (Int32.toNatClampNeg (0 : Int32)) (-32768)) (Int32.toNatClampNeg (1 : Int32)) (-32768)) (Int32.toNatClampNeg (2 : Int32)) (-32768)) (Int32.toNatClampNeg (3 : Int32)) (-32768)) (Int32.toNatClampNeg (4 : Int32)) (-32768)) (vp_updL (vp_updL (vp_updL (vp_updL (vp_updL (fun _ => 0) (Int32.toNatClampNeg (0 : Int32)) 32767) (Int32.toNatClampNeg (1 : Int32)) 32767) (Int32.toNatClampNeg (2 : Int32)) 32767) (Int32.toNatClampNeg (3 : Int32)) 32767) (Int32.toNatClampNeg (4 : Int32)) 32767) 5 16 1 _ (tell_ev (by decide) _ _ _ _) _) (cwV 3 hts gX1_init_X1_tell rfl rfl rfl (by decide +kernel) ⟨by decide, by decide⟩) hP hD (ci := 1) (q0 := 0) rfl rfl rfl hl.1 rfl (Nat.le_of_ble_eq_true rfl) dX1_init_49 ⟨by decide, by decide⟩) hD hS (fun H locs hP hD hS => ?_)
  have hP : va_P (dC, dI) vwCl [(a, .inr (1, [.ref b1, .ref b2, .ref b3, .ref b4, .int 0])), (b1, .inl (cI, 6, .inl (upd (upd (upd (upd (upd (upd (fun _ => 0) (Int32.toNatClampNeg (0 : Int32)) 16) (Int32.toNatClampNeg (1 : Int32)) 16) (Int32.toNatClampNeg (2 : Int32)) 16) (Int32.toNatClampNeg (3 : Int32)) 16) (Int32.toNatClampNeg (4 : Int32)) 16) (Int32.toNatClampNeg (5 : Int32)) 16))), (b2, .inl (cZ, 6, .inl (upd (upd (upd (upd (upd (upd (fun _ => 0) (Int32.toNatClampNeg (0 : Int32)) (vp_nar .boolean 1)) (Int32.toNatClampNeg (1 : Int32)) (vp_nar .boolean 1)) (Int32.toNatClampNeg (2 : Int32)) (vp_nar .boolean 1)) (Int32.toNatClampNeg (3 : Int32)) (vp_nar .boolean 1)) (Int32.toNatClampNeg (4 : Int32)) (vp_nar .boolean 1)) (Int32.toNatClampNeg (5 : Int32)) (vp_nar .boolean 1)))), (b3, .inl (cJ, 6, .inr (.inl (vp_updL (vp_updL (vp_updL (vp_updL (vp_updL (vp_updL (fun _ => 0) (Int32.toNatClampNeg (0 : Int32)) (-32768)) (Int32.toNatClampNeg (1 : Int32)) (-32768)) (Int32.toNatClampNeg (2 : Int32)) (-32768)) (Int32.toNatClampNeg (3 : Int32)) (-32768)) (Int32.toNatClampNeg (4 : Int32)) (-32768)) (Int32.toNatClampNeg (5 : Int32)) (-32768))))), (b4, .inl (cJ, 6, .inr (.inl (vp_updL (vp_updL (vp_updL (vp_updL (vp_updL (vp_updL (fun _ => 0) (Int32.toNatClampNeg (0 : Int32)) 32767) (Int32.toNatClampNeg (1 : Int32)) 32767) (Int32.toNatClampNeg (2 : Int32)) 32767) (Int32.toNatClampNeg (3 : Int32)) 32767) (Int32.toNatClampNeg (4 : Int32)) 32767) (Int32.toNatClampNeg (5 : Int32)) 32767))))] H := hP
  have hD : va_D A [(a, .inr (1, [.ref b1, .ref b2, .ref b3, .ref b4, .int 0])), (b1, .inl (cI, 6, .inl (upd (upd (upd (upd (upd (upd (fun _ => 0) (Int32.toNatClampNeg (0 : Int32)) 16) (Int32.toNatClampNeg (1 : Int32)) 16) (Int32.toNatClampNeg (2 : Int32)) 16) (Int32.toNatClampNeg (3 : Int32)) 16) (Int32.toNatClampNeg (4 : Int32)) 16) (Int32.toNatClampNeg (5 : Int32)) 16))), (b2, .inl (cZ, 6, .inl (upd (upd (upd (upd (upd (upd (fun _ => 0) (Int32.toNatClampNeg (0 : Int32)) (vp_nar .boolean 1)) (Int32.toNatClampNeg (1 : Int32)) (vp_nar .boolean 1)) (Int32.toNatClampNeg (2 : Int32)) (vp_nar .boolean 1)) (Int32.toNatClampNeg (3 : Int32)) (vp_nar .boolean 1)) (Int32.toNatClampNeg (4 : Int32)) (vp_nar .boolean 1)) (Int32.toNatClampNeg (5 : Int32)) (vp_nar .boolean 1)))), (b3, .inl (cJ, 6, .inr (.inl (vp_updL (vp_updL (vp_updL (vp_updL (vp_updL (vp_updL (fun _ => 0) (Int32.toNatClampNeg (0 : Int32)) (-32768)) (Int32.toNatClampNeg (1 : Int32)) (-32768)) (Int32.toNatClampNeg (2 : Int32)) (-32768)) (Int32.toNatClampNeg (3 : Int32)) (-32768)) (Int32.toNatClampNeg (4 : Int32)) (-32768)) (Int32.toNatClampNeg (5 : Int32)) (-32768))))), (b4, .inl (cJ, 6, .inr (.inl (vp_updL (vp_updL (vp_updL (vp_updL (vp_updL (vp_updL (fun _ => 0) (Int32.toNatClampNeg (0 : Int32)) 32767) (Int32.toNatClampNeg (1 : Int32)) 32767) (Int32.toNatClampNeg (2 : Int32)) 32767) (Int32.toNatClampNeg (3 : Int32)) 32767) (Int32.toNatClampNeg (4 : Int32)) 32767) (Int32.toNatClampNeg (5 : Int32)) 32767))))] := hD
  refine lv_iinc (v := (6 : Int32)) (lv' := [(1, .int (6 : Int32)), (0, .ref a)]) hx hb dX1_init_52 hl (k := 0) rfl (by decide) (by decide) rfl (fun ls hl => ?_)
  refine lv_goto (tgt := 38) hx hb dX1_init_55 (by decide) ?_
  refine lv_iload_n hx hb dX1_init_38 rfl (lv_at hl 0 rfl) ?_
  refine lv_bipush (v := (6 : Int32)) hx hb dX1_init_39 (by decide) ?_
  refine lv_icmp_ge (tgt := 58) hx hb dX1_init_41 (by decide) (fun _ => ?_) (fun c9 => absurd (show (6 : Int32) ≤ (6 : Int32) by decide) c9)
  exact ret_N (W1 := (fun u => [(a, .inr (1, [.ref (u 0), .ref (u 1), .ref (u 2), .ref (u 3), .int 0])), ((u 0), .inl (cI, 6, .inl i_wd)), ((u 1), .inl (cZ, 6, .inl i_sg)), ((u 2), .inl (cJ, 6, .inr (.inl i_lw))), ((u 3), .inl (cJ, 6, .inr (.inl i_hg)))])) C0 (fun i => [b1, b2, b3, b4].getD i 0) hP hD hS dX1_init_58
/-! ### X4_init -/
theorem mwX4_init_0 : (.methodLink RX4 3 objectInit : Cond) ∈ wsX4_init := by decide +kernel
theorem mwX4_init_1 : (.instanceMethod objectInit : Cond) ∈ wsX4_init := by decide +kernel
theorem mwX4_init_2 : (.arrayClass .int : Cond) ∈ wsX4_init := by decide +kernel
theorem mwX4_init_3 : (.fieldLink RX4 9 "SumsOver$Steps" "kinds" "[I" : Cond) ∈ wsX4_init := by decide +kernel
set_option maxRecDepth 20000 in
theorem hwX4_init_RX4 : ∀ w ∈ u_ws RX4 TX4 9, w ∈ wsX4_init := by decide +kernel
theorem mwX4_init_4 : (.fieldLink RX4 15 "SumsOver$Steps" "targets" "[I" : Cond) ∈ wsX4_init := by decide +kernel
theorem mwX4_init_5 : (.fieldLink RX4 18 "SumsOver$Steps" "as" "[I" : Cond) ∈ wsX4_init := by decide +kernel
theorem mwX4_init_6 : (.fieldLink RX4 21 "SumsOver$Steps" "bs" "[I" : Cond) ∈ wsX4_init := by decide +kernel
theorem mwX4_init_7 : (.arrayClass .boolean : Cond) ∈ wsX4_init := by decide +kernel
theorem mwX4_init_8 : (.fieldLink RX4 24 "SumsOver$Steps" "bIsName" "[Z" : Cond) ∈ wsX4_init := by decide +kernel
theorem mwX4_init_9 : (.fieldLink RX4 28 "SumsOver$Steps" "meant" "[Z" : Cond) ∈ wsX4_init := by decide +kernel
theorem mwX4_init_10 : (.fieldLink RX4 31 "SumsOver$Steps" "path" "[I" : Cond) ∈ wsX4_init := by decide +kernel
def rmX4_init : Room := { frames := 1, cells := 7, slots := 432, locals := 12 }
set_option maxHeartbeats 8000000 in
set_option maxRecDepth 100000 in
theorem kX4_init (l : Launch) (dC : Nat → ClassId) (dI : Nat → Nat → Nat) (cI cJ cZ : ClassId) (a : Nat) : CtN l yX4_init wsX4_init rmX4_init (dC, dI) (ty3 cI cJ cZ) [(a, .inr (4, [.null, .null, .null, .null, .null, .null, .int 0, .null, .int 0]))] [.ref a] (fun u => [(a, .inr (4, [.ref (u 0), .ref (u 1), .ref (u 2), .ref (u 3), .ref (u 4), .ref (u 5), .int 0, .ref (u 6), .int 0])), ((u 0), .inl (cI, 24, .inl (fun _ => 0))), ((u 1), .inl (cI, 24, .inl (fun _ => 0))), ((u 2), .inl (cI, 24, .inl (fun _ => 0))), ((u 3), .inl (cI, 24, .inl (fun _ => 0))), ((u 4), .inl (cZ, 24, .inl (fun _ => 0))), ((u 5), .inl (cZ, 24, .inl (fun _ => 0))), ((u 6), .inl (cI, 288, .inl (fun _ => 0)))]) 7 432 := by
  intro sz
  refine cn_entry (cc := cX4_init) (maxL := 1) (ret := none) (own := RX4) (by decide) rfl rfl (Nat.le_of_ble_eq_true rfl) (ll := [(0, .ref a)]) rfl ?_
  intro p e s m args below meth c hsz C0 hin hP hD ls hl
  have C1 := C0
  obtain ⟨hx, hb, hr, hml, hown, hts, hlocks, hN, hK, hA⟩ := C1
  have hS : va_S (va_A [(a, .inr (4, [.null, .null, .null, .null, .null, .null, .int 0, .null, .int 0]))] sz) s.heap s.heap [] := va_S.rf
  generalize va_A [(a, .inr (4, [.null, .null, .null, .null, .null, .null, .int 0, .null, .int 0]))] sz = A at C0 hD hA hS ⊢
  show W p l e rmX4_init s m args below meth c s.heap [] 0 0 (QN below args s A (dC, dI) (ty3 cI cJ cZ) (fun u => [(a, .inr (4, [.ref (u 0), .ref (u 1), .ref (u 2), .ref (u 3), .ref (u 4), .ref (u 5), .int 0, .ref (u 6), .int 0])), ((u 0), .inl (cI, 24, .inl (fun _ => 0))), ((u 1), .inl (cI, 24, .inl (fun _ => 0))), ((u 2), .inl (cI, 24, .inl (fun _ => 0))), ((u 3), .inl (cI, 24, .inl (fun _ => 0))), ((u 4), .inl (cZ, 24, .inl (fun _ => 0))), ((u 5), .inl (cZ, 24, .inl (fun _ => 0))), ((u 6), .inl (cI, 288, .inl (fun _ => 0)))]) 7 432) (F0 m 0 ls [])
  refine lv_aload_n hx hb dX4_init_0 rfl (lv_at hl 0 rfl) ?_
  refine W.objInit hx hb hown (hts _ mwX4_init_0) (hts _ mwX4_init_1) (hts _ (List.mem_of_getElem? (l := wsX4_init) (i := 3) rfl)) rfl (by rw [hml]; exact hl.1) rfl dX4_init_1 (Nat.le_of_ble_eq_true rfl) (Nat.le_of_ble_eq_true rfl) ?_
  refine W.eq (g2 := F0 m 4 ls []) rfl ?_
  refine lv_aload_n hx hb dX4_init_4 rfl (lv_at hl 0 rfl) ?_
  refine lv_bipush (v := (24 : Int32)) hx hb dX4_init_5 (by decide) ?_
  refine new_I C0 (hts _ mwX4_init_2) hP hD hS (N := 24) (by decide) (by decide) (by decide) (by decide) (by decide) dX4_init_7 (fun b1 H hP hD hS => ?_)
  have hP : va_P (dC, dI) vwCl [(a, .inr (4, [.null, .null, .null, .null, .null, .null, .int 0, .null, .int 0])), (b1, .inl (cI, 24, .inl (fun _ => 0)))] H := hP
  have hD : va_D A [(a, .inr (4, [.null, .null, .null, .null, .null, .null, .int 0, .null, .int 0])), (b1, .inl (cI, 24, .inl (fun _ => 0)))] := hD
  refine W.widen (k := 1) (n := 24) (by decide) (by decide) ?_
  refine va_putF (D := (dC, dI)) (ci := 4) (v := .ref b1) (ty := .array .int) (C := RX4) (T := TX4) (N := 9) hx hb hts hwX4_init_RX4 tyX4 tyX4_ok nmX4 hown hK hP hD hS 0 rfl rfl 0 (by decide) (hts _ mwX4_init_3) (fun _ h9 => h9) rfl hin rfl (by decide +kernel) rfl rfl (Nat.le_of_ble_eq_true rfl) dX4_init_9 (fun H locs hP hD hS => ?_)
  have hP : va_P (dC, dI) vwCl [(a, .inr (4, [.ref b1, .null, .null, .null, .null, .null, .int 0, .null, .int 0])), (b1, .inl (cI, 24, .inl (fun _ => 0)))] H := hP
  have hD : va_D A [(a, .inr (4, [.ref b1, .null, .null, .null, .null, .null, .int 0, .null, .int 0])), (b1, .inl (cI, 24, .inl (fun _ => 0)))] := hD
  refine lv_aload_n hx hb dX4_init_12 rfl (lv_at hl 0 rfl) ?_
  refine lv_bipush (v := (24 : Int32)) hx hb dX4_init_13 (by decide) ?_
  refine new_I C0 (hts _ mwX4_init_2) hP hD hS (N := 24) (by decide) (by decide) (by decide) (by decide) (by decide) dX4_init_15 (fun b2 H hP hD hS => ?_)
  have hP : va_P (dC, dI) vwCl [(a, .inr (4, [.ref b1, .null, .null, .null, .null, .null, .int 0, .null, .int 0])), (b1, .inl (cI, 24, .inl (fun _ => 0))), (b2, .inl (cI, 24, .inl (fun _ => 0)))] H := hP
  have hD : va_D A [(a, .inr (4, [.ref b1, .null, .null, .null, .null, .null, .int 0, .null, .int 0])), (b1, .inl (cI, 24, .inl (fun _ => 0))), (b2, .inl (cI, 24, .inl (fun _ => 0)))] := hD
  refine W.widen (k := 2) (n := 48) (by decide) (by decide) ?_
  refine va_putF (D := (dC, dI)) (ci := 4) (v := .ref b2) (ty := .array .int) (C := RX4) (T := TX4) (N := 9) hx hb hts hwX4_init_RX4 tyX4 tyX4_ok nmX4 hown hK hP hD hS 0 rfl rfl 1 (by decide) (hts _ mwX4_init_4) (fun _ h9 => h9) rfl hin rfl (by decide +kernel) rfl rfl (Nat.le_of_ble_eq_true rfl) dX4_init_17 (fun H locs hP hD hS => ?_)
  have hP : va_P (dC, dI) vwCl [(a, .inr (4, [.ref b1, .ref b2, .null, .null, .null, .null, .int 0, .null, .int 0])), (b1, .inl (cI, 24, .inl (fun _ => 0))), (b2, .inl (cI, 24, .inl (fun _ => 0)))] H := hP
  have hD : va_D A [(a, .inr (4, [.ref b1, .ref b2, .null, .null, .null, .null, .int 0, .null, .int 0])), (b1, .inl (cI, 24, .inl (fun _ => 0))), (b2, .inl (cI, 24, .inl (fun _ => 0)))] := hD
  refine lv_aload_n hx hb dX4_init_20 rfl (lv_at hl 0 rfl) ?_
  refine lv_bipush (v := (24 : Int32)) hx hb dX4_init_21 (by decide) ?_
  refine new_I C0 (hts _ mwX4_init_2) hP hD hS (N := 24) (by decide) (by decide) (by decide) (by decide) (by decide) dX4_init_23 (fun b3 H hP hD hS => ?_)
  have hP : va_P (dC, dI) vwCl [(a, .inr (4, [.ref b1, .ref b2, .null, .null, .null, .null, .int 0, .null, .int 0])), (b1, .inl (cI, 24, .inl (fun _ => 0))), (b2, .inl (cI, 24, .inl (fun _ => 0))), (b3, .inl (cI, 24, .inl (fun _ => 0)))] H := hP
  have hD : va_D A [(a, .inr (4, [.ref b1, .ref b2, .null, .null, .null, .null, .int 0, .null, .int 0])), (b1, .inl (cI, 24, .inl (fun _ => 0))), (b2, .inl (cI, 24, .inl (fun _ => 0))), (b3, .inl (cI, 24, .inl (fun _ => 0)))] := hD
  refine W.widen (k := 3) (n := 72) (by decide) (by decide) ?_
  refine va_putF (D := (dC, dI)) (ci := 4) (v := .ref b3) (ty := .array .int) (C := RX4) (T := TX4) (N := 9) hx hb hts hwX4_init_RX4 tyX4 tyX4_ok nmX4 hown hK hP hD hS 0 rfl rfl 2 (by decide) (hts _ mwX4_init_5) (fun _ h9 => h9) rfl hin rfl (by decide +kernel) rfl rfl (Nat.le_of_ble_eq_true rfl) dX4_init_25 (fun H locs hP hD hS => ?_)
  have hP : va_P (dC, dI) vwCl [(a, .inr (4, [.ref b1, .ref b2, .ref b3, .null, .null, .null, .int 0, .null, .int 0])), (b1, .inl (cI, 24, .inl (fun _ => 0))), (b2, .inl (cI, 24, .inl (fun _ => 0))), (b3, .inl (cI, 24, .inl (fun _ => 0)))] H := hP
  have hD : va_D A [(a, .inr (4, [.ref b1, .ref b2, .ref b3, .null, .null, .null, .int 0, .null, .int 0])), (b1, .inl (cI, 24, .inl (fun _ => 0))), (b2, .inl (cI, 24, .inl (fun _ => 0))), (b3, .inl (cI, 24, .inl (fun _ => 0)))] := hD
  refine lv_aload_n hx hb dX4_init_28 rfl (lv_at hl 0 rfl) ?_
  refine lv_bipush (v := (24 : Int32)) hx hb dX4_init_29 (by decide) ?_
  refine new_I C0 (hts _ mwX4_init_2) hP hD hS (N := 24) (by decide) (by decide) (by decide) (by decide) (by decide) dX4_init_31 (fun b4 H hP hD hS => ?_)
  have hP : va_P (dC, dI) vwCl [(a, .inr (4, [.ref b1, .ref b2, .ref b3, .null, .null, .null, .int 0, .null, .int 0])), (b1, .inl (cI, 24, .inl (fun _ => 0))), (b2, .inl (cI, 24, .inl (fun _ => 0))), (b3, .inl (cI, 24, .inl (fun _ => 0))), (b4, .inl (cI, 24, .inl (fun _ => 0)))] H := hP
  have hD : va_D A [(a, .inr (4, [.ref b1, .ref b2, .ref b3, .null, .null, .null, .int 0, .null, .int 0])), (b1, .inl (cI, 24, .inl (fun _ => 0))), (b2, .inl (cI, 24, .inl (fun _ => 0))), (b3, .inl (cI, 24, .inl (fun _ => 0))), (b4, .inl (cI, 24, .inl (fun _ => 0)))] := hD
  refine W.widen (k := 4) (n := 96) (by decide) (by decide) ?_
  refine va_putF (D := (dC, dI)) (ci := 4) (v := .ref b4) (ty := .array .int) (C := RX4) (T := TX4) (N := 9) hx hb hts hwX4_init_RX4 tyX4 tyX4_ok nmX4 hown hK hP hD hS 0 rfl rfl 3 (by decide) (hts _ mwX4_init_6) (fun _ h9 => h9) rfl hin rfl (by decide +kernel) rfl rfl (Nat.le_of_ble_eq_true rfl) dX4_init_33 (fun H locs hP hD hS => ?_)
  have hP : va_P (dC, dI) vwCl [(a, .inr (4, [.ref b1, .ref b2, .ref b3, .ref b4, .null, .null, .int 0, .null, .int 0])), (b1, .inl (cI, 24, .inl (fun _ => 0))), (b2, .inl (cI, 24, .inl (fun _ => 0))), (b3, .inl (cI, 24, .inl (fun _ => 0))), (b4, .inl (cI, 24, .inl (fun _ => 0)))] H := hP
  have hD : va_D A [(a, .inr (4, [.ref b1, .ref b2, .ref b3, .ref b4, .null, .null, .int 0, .null, .int 0])), (b1, .inl (cI, 24, .inl (fun _ => 0))), (b2, .inl (cI, 24, .inl (fun _ => 0))), (b3, .inl (cI, 24, .inl (fun _ => 0))), (b4, .inl (cI, 24, .inl (fun _ => 0)))] := hD
  refine lv_aload_n hx hb dX4_init_36 rfl (lv_at hl 0 rfl) ?_
  refine lv_bipush (v := (24 : Int32)) hx hb dX4_init_37 (by decide) ?_
  refine new_Z C0 (hts _ mwX4_init_7) hP hD hS (N := 24) (by decide) (by decide) (by decide) (by decide) (by decide) dX4_init_39 (fun b5 H hP hD hS => ?_)
  have hP : va_P (dC, dI) vwCl [(a, .inr (4, [.ref b1, .ref b2, .ref b3, .ref b4, .null, .null, .int 0, .null, .int 0])), (b1, .inl (cI, 24, .inl (fun _ => 0))), (b2, .inl (cI, 24, .inl (fun _ => 0))), (b3, .inl (cI, 24, .inl (fun _ => 0))), (b4, .inl (cI, 24, .inl (fun _ => 0))), (b5, .inl (cZ, 24, .inl (fun _ => 0)))] H := hP
  have hD : va_D A [(a, .inr (4, [.ref b1, .ref b2, .ref b3, .ref b4, .null, .null, .int 0, .null, .int 0])), (b1, .inl (cI, 24, .inl (fun _ => 0))), (b2, .inl (cI, 24, .inl (fun _ => 0))), (b3, .inl (cI, 24, .inl (fun _ => 0))), (b4, .inl (cI, 24, .inl (fun _ => 0))), (b5, .inl (cZ, 24, .inl (fun _ => 0)))] := hD
  refine W.widen (k := 5) (n := 120) (by decide) (by decide) ?_
  refine va_putF (D := (dC, dI)) (ci := 4) (v := .ref b5) (ty := .array .boolean) (C := RX4) (T := TX4) (N := 9) hx hb hts hwX4_init_RX4 tyX4 tyX4_ok nmX4 hown hK hP hD hS 0 rfl rfl 4 (by decide) (hts _ mwX4_init_8) (fun _ h9 => h9) rfl hin rfl (by decide +kernel) rfl rfl (Nat.le_of_ble_eq_true rfl) dX4_init_41 (fun H locs hP hD hS => ?_)
  have hP : va_P (dC, dI) vwCl [(a, .inr (4, [.ref b1, .ref b2, .ref b3, .ref b4, .ref b5, .null, .int 0, .null, .int 0])), (b1, .inl (cI, 24, .inl (fun _ => 0))), (b2, .inl (cI, 24, .inl (fun _ => 0))), (b3, .inl (cI, 24, .inl (fun _ => 0))), (b4, .inl (cI, 24, .inl (fun _ => 0))), (b5, .inl (cZ, 24, .inl (fun _ => 0)))] H := hP
  have hD : va_D A [(a, .inr (4, [.ref b1, .ref b2, .ref b3, .ref b4, .ref b5, .null, .int 0, .null, .int 0])), (b1, .inl (cI, 24, .inl (fun _ => 0))), (b2, .inl (cI, 24, .inl (fun _ => 0))), (b3, .inl (cI, 24, .inl (fun _ => 0))), (b4, .inl (cI, 24, .inl (fun _ => 0))), (b5, .inl (cZ, 24, .inl (fun _ => 0)))] := hD
  refine lv_aload_n hx hb dX4_init_44 rfl (lv_at hl 0 rfl) ?_
  refine lv_bipush (v := (24 : Int32)) hx hb dX4_init_45 (by decide) ?_
  refine new_Z C0 (hts _ mwX4_init_7) hP hD hS (N := 24) (by decide) (by decide) (by decide) (by decide) (by decide) dX4_init_47 (fun b6 H hP hD hS => ?_)
  have hP : va_P (dC, dI) vwCl [(a, .inr (4, [.ref b1, .ref b2, .ref b3, .ref b4, .ref b5, .null, .int 0, .null, .int 0])), (b1, .inl (cI, 24, .inl (fun _ => 0))), (b2, .inl (cI, 24, .inl (fun _ => 0))), (b3, .inl (cI, 24, .inl (fun _ => 0))), (b4, .inl (cI, 24, .inl (fun _ => 0))), (b5, .inl (cZ, 24, .inl (fun _ => 0))), (b6, .inl (cZ, 24, .inl (fun _ => 0)))] H := hP
  have hD : va_D A [(a, .inr (4, [.ref b1, .ref b2, .ref b3, .ref b4, .ref b5, .null, .int 0, .null, .int 0])), (b1, .inl (cI, 24, .inl (fun _ => 0))), (b2, .inl (cI, 24, .inl (fun _ => 0))), (b3, .inl (cI, 24, .inl (fun _ => 0))), (b4, .inl (cI, 24, .inl (fun _ => 0))), (b5, .inl (cZ, 24, .inl (fun _ => 0))), (b6, .inl (cZ, 24, .inl (fun _ => 0)))] := hD
  refine W.widen (k := 6) (n := 144) (by decide) (by decide) ?_
  refine va_putF (D := (dC, dI)) (ci := 4) (v := .ref b6) (ty := .array .boolean) (C := RX4) (T := TX4) (N := 9) hx hb hts hwX4_init_RX4 tyX4 tyX4_ok nmX4 hown hK hP hD hS 0 rfl rfl 5 (by decide) (hts _ mwX4_init_9) (fun _ h9 => h9) rfl hin rfl (by decide +kernel) rfl rfl (Nat.le_of_ble_eq_true rfl) dX4_init_49 (fun H locs hP hD hS => ?_)
  have hP : va_P (dC, dI) vwCl [(a, .inr (4, [.ref b1, .ref b2, .ref b3, .ref b4, .ref b5, .ref b6, .int 0, .null, .int 0])), (b1, .inl (cI, 24, .inl (fun _ => 0))), (b2, .inl (cI, 24, .inl (fun _ => 0))), (b3, .inl (cI, 24, .inl (fun _ => 0))), (b4, .inl (cI, 24, .inl (fun _ => 0))), (b5, .inl (cZ, 24, .inl (fun _ => 0))), (b6, .inl (cZ, 24, .inl (fun _ => 0)))] H := hP
  have hD : va_D A [(a, .inr (4, [.ref b1, .ref b2, .ref b3, .ref b4, .ref b5, .ref b6, .int 0, .null, .int 0])), (b1, .inl (cI, 24, .inl (fun _ => 0))), (b2, .inl (cI, 24, .inl (fun _ => 0))), (b3, .inl (cI, 24, .inl (fun _ => 0))), (b4, .inl (cI, 24, .inl (fun _ => 0))), (b5, .inl (cZ, 24, .inl (fun _ => 0))), (b6, .inl (cZ, 24, .inl (fun _ => 0)))] := hD
  refine lv_aload_n hx hb dX4_init_52 rfl (lv_at hl 0 rfl) ?_
  refine lv_sipush (v := (288 : Int32)) hx hb dX4_init_53 (by decide) ?_
  refine new_I C0 (hts _ mwX4_init_2) hP hD hS (N := 288) (by decide) (by decide) (by decide) (by decide) (by decide) dX4_init_56 (fun b7 H hP hD hS => ?_)
  have hP : va_P (dC, dI) vwCl [(a, .inr (4, [.ref b1, .ref b2, .ref b3, .ref b4, .ref b5, .ref b6, .int 0, .null, .int 0])), (b1, .inl (cI, 24, .inl (fun _ => 0))), (b2, .inl (cI, 24, .inl (fun _ => 0))), (b3, .inl (cI, 24, .inl (fun _ => 0))), (b4, .inl (cI, 24, .inl (fun _ => 0))), (b5, .inl (cZ, 24, .inl (fun _ => 0))), (b6, .inl (cZ, 24, .inl (fun _ => 0))), (b7, .inl (cI, 288, .inl (fun _ => 0)))] H := hP
  have hD : va_D A [(a, .inr (4, [.ref b1, .ref b2, .ref b3, .ref b4, .ref b5, .ref b6, .int 0, .null, .int 0])), (b1, .inl (cI, 24, .inl (fun _ => 0))), (b2, .inl (cI, 24, .inl (fun _ => 0))), (b3, .inl (cI, 24, .inl (fun _ => 0))), (b4, .inl (cI, 24, .inl (fun _ => 0))), (b5, .inl (cZ, 24, .inl (fun _ => 0))), (b6, .inl (cZ, 24, .inl (fun _ => 0))), (b7, .inl (cI, 288, .inl (fun _ => 0)))] := hD
  refine W.widen (k := 7) (n := 432) (by decide) (by decide) ?_
  refine va_putF (D := (dC, dI)) (ci := 4) (v := .ref b7) (ty := .array .int) (C := RX4) (T := TX4) (N := 9) hx hb hts hwX4_init_RX4 tyX4 tyX4_ok nmX4 hown hK hP hD hS 0 rfl rfl 7 (by decide) (hts _ mwX4_init_10) (fun _ h9 => h9) rfl hin rfl (by decide +kernel) rfl rfl (Nat.le_of_ble_eq_true rfl) dX4_init_58 (fun H locs hP hD hS => ?_)
  have hP : va_P (dC, dI) vwCl [(a, .inr (4, [.ref b1, .ref b2, .ref b3, .ref b4, .ref b5, .ref b6, .int 0, .ref b7, .int 0])), (b1, .inl (cI, 24, .inl (fun _ => 0))), (b2, .inl (cI, 24, .inl (fun _ => 0))), (b3, .inl (cI, 24, .inl (fun _ => 0))), (b4, .inl (cI, 24, .inl (fun _ => 0))), (b5, .inl (cZ, 24, .inl (fun _ => 0))), (b6, .inl (cZ, 24, .inl (fun _ => 0))), (b7, .inl (cI, 288, .inl (fun _ => 0)))] H := hP
  have hD : va_D A [(a, .inr (4, [.ref b1, .ref b2, .ref b3, .ref b4, .ref b5, .ref b6, .int 0, .ref b7, .int 0])), (b1, .inl (cI, 24, .inl (fun _ => 0))), (b2, .inl (cI, 24, .inl (fun _ => 0))), (b3, .inl (cI, 24, .inl (fun _ => 0))), (b4, .inl (cI, 24, .inl (fun _ => 0))), (b5, .inl (cZ, 24, .inl (fun _ => 0))), (b6, .inl (cZ, 24, .inl (fun _ => 0))), (b7, .inl (cI, 288, .inl (fun _ => 0)))] := hD
  exact ret_N (W1 := (fun u => [(a, .inr (4, [.ref (u 0), .ref (u 1), .ref (u 2), .ref (u 3), .ref (u 4), .ref (u 5), .int 0, .ref (u 6), .int 0])), ((u 0), .inl (cI, 24, .inl (fun _ => 0))), ((u 1), .inl (cI, 24, .inl (fun _ => 0))), ((u 2), .inl (cI, 24, .inl (fun _ => 0))), ((u 3), .inl (cI, 24, .inl (fun _ => 0))), ((u 4), .inl (cZ, 24, .inl (fun _ => 0))), ((u 5), .inl (cZ, 24, .inl (fun _ => 0))), ((u 6), .inl (cI, 288, .inl (fun _ => 0)))])) C0 (fun i => [b1, b2, b3, b4, b5, b6, b7].getD i 0) hP hD hS dX4_init_61
/-! ### X3_init -/
theorem mwX3_init_0 : (.methodLink RX3 3 objectInit : Cond) ∈ wsX3_init := by decide +kernel
theorem mwX3_init_1 : (.instanceMethod objectInit : Cond) ∈ wsX3_init := by decide +kernel
theorem mwX3_init_2 : (.arrayClass .long : Cond) ∈ wsX3_init := by decide +kernel
theorem mwX3_init_3 : (.fieldLink RX3 9 "SumsOver$Runner" "values" "[J" : Cond) ∈ wsX3_init := by decide +kernel
set_option maxRecDepth 20000 in
theorem hwX3_init_RX3 : ∀ w ∈ u_ws RX3 TX3 6, w ∈ wsX3_init := by decide +kernel
theorem mwX3_init_4 : (.fieldLink RX3 15 "SumsOver$Runner" "names" "LSumsOver$Names;" : Cond) ∈ wsX3_init := by decide +kernel
theorem mwX3_init_5 : (.fieldLink RX3 19 "SumsOver$Runner" "steps" "LSumsOver$Steps;" : Cond) ∈ wsX3_init := by decide +kernel
def rmX3_init : Room := { frames := 1, cells := 1, slots := 6, locals := 12 }
set_option maxHeartbeats 8000000 in
set_option maxRecDepth 100000 in
theorem kX3_init (l : Launch) (dC : Nat → ClassId) (dI : Nat → Nat → Nat) (cI cJ cZ : ClassId) (a a1 a2 : Nat) : CtN l yX3_init wsX3_init rmX3_init (dC, dI) (ty3 cI cJ cZ) [(a, .inr (3, [.null, .null, .null, .int 0, .int 0, .int 0]))] [.ref a, .ref a1, .ref a2] (fun u => [(a, .inr (3, [.ref a1, .ref a2, .ref (u 0), .int 0, .int 0, .int 0])), ((u 0), .inl (cJ, 6, .inr (.inl (fun _ => 0))))]) 1 6 := by
  intro sz
  refine cn_entry (cc := cX3_init) (maxL := 3) (ret := none) (own := RX3) (by decide) rfl rfl (Nat.le_of_ble_eq_true rfl) (ll := [(0, .ref a), (1, .ref a1), (2, .ref a2)]) rfl ?_
  intro p e s m args below meth c hsz C0 hin hP hD ls hl
  have C1 := C0
  obtain ⟨hx, hb, hr, hml, hown, hts, hlocks, hN, hK, hA⟩ := C1
  have hS : va_S (va_A [(a, .inr (3, [.null, .null, .null, .int 0, .int 0, .int 0]))] sz) s.heap s.heap [] := va_S.rf
  generalize va_A [(a, .inr (3, [.null, .null, .null, .int 0, .int 0, .int 0]))] sz = A at C0 hD hA hS ⊢
  show W p l e rmX3_init s m args below meth c s.heap [] 0 0 (QN below args s A (dC, dI) (ty3 cI cJ cZ) (fun u => [(a, .inr (3, [.ref a1, .ref a2, .ref (u 0), .int 0, .int 0, .int 0])), ((u 0), .inl (cJ, 6, .inr (.inl (fun _ => 0))))]) 1 6) (F0 m 0 ls [])
  refine lv_aload_n hx hb dX3_init_0 rfl (lv_at hl 0 rfl) ?_
  refine W.objInit hx hb hown (hts _ mwX3_init_0) (hts _ mwX3_init_1) (hts _ (List.mem_of_getElem? (l := wsX3_init) (i := 3) rfl)) rfl (by rw [hml]; exact hl.1) rfl dX3_init_1 (Nat.le_of_ble_eq_true rfl) (Nat.le_of_ble_eq_true rfl) ?_
  refine W.eq (g2 := F0 m 4 ls []) rfl ?_
  refine lv_aload_n hx hb dX3_init_4 rfl (lv_at hl 0 rfl) ?_
  refine lv_bipush (v := (6 : Int32)) hx hb dX3_init_5 (by decide) ?_
  refine new_J C0 (hts _ mwX3_init_2) hP hD hS (N := 6) (by decide) (by decide) (by decide) (by decide) (by decide) dX3_init_7 (fun b1 H hP hD hS => ?_)
  have hP : va_P (dC, dI) vwCl [(a, .inr (3, [.null, .null, .null, .int 0, .int 0, .int 0])), (b1, .inl (cJ, 6, .inr (.inl (fun _ => 0))))] H := hP
  have hD : va_D A [(a, .inr (3, [.null, .null, .null, .int 0, .int 0, .int 0])), (b1, .inl (cJ, 6, .inr (.inl (fun _ => 0))))] := hD
  refine W.widen (k := 1) (n := 6) (by decide) (by decide) ?_
  refine va_putF (D := (dC, dI)) (ci := 3) (v := .ref b1) (ty := .array .long) (C := RX3) (T := TX3) (N := 6) hx hb hts hwX3_init_RX3 tyX3 tyX3_ok nmX3 hown hK hP hD hS 0 rfl rfl 2 (by decide) (hts _ mwX3_init_3) (fun _ h9 => h9) rfl hin rfl (by decide +kernel) rfl rfl (Nat.le_of_ble_eq_true rfl) dX3_init_9 (fun H locs hP hD hS => ?_)
  have hP : va_P (dC, dI) vwCl [(a, .inr (3, [.null, .null, .ref b1, .int 0, .int 0, .int 0])), (b1, .inl (cJ, 6, .inr (.inl (fun _ => 0))))] H := hP
  have hD : va_D A [(a, .inr (3, [.null, .null, .ref b1, .int 0, .int 0, .int 0])), (b1, .inl (cJ, 6, .inr (.inl (fun _ => 0))))] := hD
  refine lv_aload_n hx hb dX3_init_12 rfl (lv_at hl 0 rfl) ?_
  refine lv_aload_n hx hb dX3_init_13 rfl (lv_at hl 1 rfl) ?_
  refine va_putF (D := (dC, dI)) (ci := 3) (v := .ref a1) (ty := .object "SumsOver$Names") (C := RX3) (T := TX3) (N := 6) hx hb hts hwX3_init_RX3 tyX3 tyX3_ok nmX3 hown hK hP hD hS 0 rfl rfl 0 (by decide) (hts _ mwX3_init_4) (fun _ h9 => h9) rfl hin rfl (by decide +kernel) rfl rfl (Nat.le_of_ble_eq_true rfl) dX3_init_14 (fun H locs hP hD hS => ?_)
  have hP : va_P (dC, dI) vwCl [(a, .inr (3, [.ref a1, .null, .ref b1, .int 0, .int 0, .int 0])), (b1, .inl (cJ, 6, .inr (.inl (fun _ => 0))))] H := hP
  have hD : va_D A [(a, .inr (3, [.ref a1, .null, .ref b1, .int 0, .int 0, .int 0])), (b1, .inl (cJ, 6, .inr (.inl (fun _ => 0))))] := hD
  refine lv_aload_n hx hb dX3_init_17 rfl (lv_at hl 0 rfl) ?_
  refine lv_aload_n hx hb dX3_init_18 rfl (lv_at hl 2 rfl) ?_
  refine va_putF (D := (dC, dI)) (ci := 3) (v := .ref a2) (ty := .object "SumsOver$Steps") (C := RX3) (T := TX3) (N := 6) hx hb hts hwX3_init_RX3 tyX3 tyX3_ok nmX3 hown hK hP hD hS 0 rfl rfl 1 (by decide) (hts _ mwX3_init_5) (fun _ h9 => h9) rfl hin rfl (by decide +kernel) rfl rfl (Nat.le_of_ble_eq_true rfl) dX3_init_19 (fun H locs hP hD hS => ?_)
  have hP : va_P (dC, dI) vwCl [(a, .inr (3, [.ref a1, .ref a2, .ref b1, .int 0, .int 0, .int 0])), (b1, .inl (cJ, 6, .inr (.inl (fun _ => 0))))] H := hP
  have hD : va_D A [(a, .inr (3, [.ref a1, .ref a2, .ref b1, .int 0, .int 0, .int 0])), (b1, .inl (cJ, 6, .inr (.inl (fun _ => 0))))] := hD
  exact ret_N (W1 := (fun u => [(a, .inr (3, [.ref a1, .ref a2, .ref (u 0), .int 0, .int 0, .int 0])), ((u 0), .inl (cJ, 6, .inr (.inl (fun _ => 0))))])) C0 (fun i => [b1].getD i 0) hP hD hS dX3_init_22
/-! ### X5_init -/
theorem mwX5_init_0 : (.methodLink RX5 3 objectInit : Cond) ∈ wsX5_init := by decide +kernel
theorem mwX5_init_1 : (.instanceMethod objectInit : Cond) ∈ wsX5_init := by decide +kernel
theorem mwX5_init_2 : (.arrayClass .int : Cond) ∈ wsX5_init := by decide +kernel
theorem mwX5_init_3 : (.fieldLink RX5 9 "SumsOver$Tally" "over" "[I" : Cond) ∈ wsX5_init := by decide +kernel
set_option maxRecDepth 20000 in
theorem hwX5_init_RX5 : ∀ w ∈ u_ws RX5 TX5 7, w ∈ wsX5_init := by decide +kernel
theorem mwX5_init_4 : (.fieldLink RX5 15 "SumsOver$Tally" "shown" "[I" : Cond) ∈ wsX5_init := by decide +kernel
theorem mwX5_init_5 : (.fieldLink RX5 18 "SumsOver$Tally" "turned" "[I" : Cond) ∈ wsX5_init := by decide +kernel
theorem mwX5_init_6 : (.fieldLink RX5 21 "SumsOver$Tally" "runner" "LSumsOver$Runner;" : Cond) ∈ wsX5_init := by decide +kernel
theorem mwX5_init_7 : (.fieldLink RX5 25 "SumsOver$Tally" "inputs" "LSumsOver$Inputs;" : Cond) ∈ wsX5_init := by decide +kernel
def rmX5_init : Room := { frames := 1, cells := 3, slots := 72, locals := 12 }
set_option maxHeartbeats 8000000 in
set_option maxRecDepth 100000 in
theorem kX5_init (l : Launch) (dC : Nat → ClassId) (dI : Nat → Nat → Nat) (cI cJ cZ : ClassId) (a a1 a2 : Nat) : CtN l yX5_init wsX5_init rmX5_init (dC, dI) (ty3 cI cJ cZ) [(a, .inr (5, [.null, .null, .null, .int 0, .int 0, .null, .null]))] [.ref a, .ref a1, .ref a2] (fun u => [(a, .inr (5, [.ref (u 0), .ref (u 1), .ref (u 2), .int 0, .int 0, .ref a1, .ref a2])), ((u 0), .inl (cI, 24, .inl (fun _ => 0))), ((u 1), .inl (cI, 24, .inl (fun _ => 0))), ((u 2), .inl (cI, 24, .inl (fun _ => 0)))]) 3 72 := by
  intro sz
  refine cn_entry (cc := cX5_init) (maxL := 3) (ret := none) (own := RX5) (by decide) rfl rfl (Nat.le_of_ble_eq_true rfl) (ll := [(0, .ref a), (1, .ref a1), (2, .ref a2)]) rfl ?_
  intro p e s m args below meth c hsz C0 hin hP hD ls hl
  have C1 := C0
  obtain ⟨hx, hb, hr, hml, hown, hts, hlocks, hN, hK, hA⟩ := C1
  have hS : va_S (va_A [(a, .inr (5, [.null, .null, .null, .int 0, .int 0, .null, .null]))] sz) s.heap s.heap [] := va_S.rf
  generalize va_A [(a, .inr (5, [.null, .null, .null, .int 0, .int 0, .null, .null]))] sz = A at C0 hD hA hS ⊢
  show W p l e rmX5_init s m args below meth c s.heap [] 0 0 (QN below args s A (dC, dI) (ty3 cI cJ cZ) (fun u => [(a, .inr (5, [.ref (u 0), .ref (u 1), .ref (u 2), .int 0, .int 0, .ref a1, .ref a2])), ((u 0), .inl (cI, 24, .inl (fun _ => 0))), ((u 1), .inl (cI, 24, .inl (fun _ => 0))), ((u 2), .inl (cI, 24, .inl (fun _ => 0)))]) 3 72) (F0 m 0 ls [])
  refine lv_aload_n hx hb dX5_init_0 rfl (lv_at hl 0 rfl) ?_
  refine W.objInit hx hb hown (hts _ mwX5_init_0) (hts _ mwX5_init_1) (hts _ (List.mem_of_getElem? (l := wsX5_init) (i := 3) rfl)) rfl (by rw [hml]; exact hl.1) rfl dX5_init_1 (Nat.le_of_ble_eq_true rfl) (Nat.le_of_ble_eq_true rfl) ?_
  refine W.eq (g2 := F0 m 4 ls []) rfl ?_
  refine lv_aload_n hx hb dX5_init_4 rfl (lv_at hl 0 rfl) ?_
  refine lv_bipush (v := (24 : Int32)) hx hb dX5_init_5 (by decide) ?_
  refine new_I C0 (hts _ mwX5_init_2) hP hD hS (N := 24) (by decide) (by decide) (by decide) (by decide) (by decide) dX5_init_7 (fun b1 H hP hD hS => ?_)
  have hP : va_P (dC, dI) vwCl [(a, .inr (5, [.null, .null, .null, .int 0, .int 0, .null, .null])), (b1, .inl (cI, 24, .inl (fun _ => 0)))] H := hP
  have hD : va_D A [(a, .inr (5, [.null, .null, .null, .int 0, .int 0, .null, .null])), (b1, .inl (cI, 24, .inl (fun _ => 0)))] := hD
  refine W.widen (k := 1) (n := 24) (by decide) (by decide) ?_
  refine va_putF (D := (dC, dI)) (ci := 5) (v := .ref b1) (ty := .array .int) (C := RX5) (T := TX5) (N := 7) hx hb hts hwX5_init_RX5 tyX5 tyX5_ok nmX5 hown hK hP hD hS 0 rfl rfl 0 (by decide) (hts _ mwX5_init_3) (fun _ h9 => h9) rfl hin rfl (by decide +kernel) rfl rfl (Nat.le_of_ble_eq_true rfl) dX5_init_9 (fun H locs hP hD hS => ?_)
  have hP : va_P (dC, dI) vwCl [(a, .inr (5, [.ref b1, .null, .null, .int 0, .int 0, .null, .null])), (b1, .inl (cI, 24, .inl (fun _ => 0)))] H := hP
  have hD : va_D A [(a, .inr (5, [.ref b1, .null, .null, .int 0, .int 0, .null, .null])), (b1, .inl (cI, 24, .inl (fun _ => 0)))] := hD
  refine lv_aload_n hx hb dX5_init_12 rfl (lv_at hl 0 rfl) ?_
  refine lv_bipush (v := (24 : Int32)) hx hb dX5_init_13 (by decide) ?_
  refine new_I C0 (hts _ mwX5_init_2) hP hD hS (N := 24) (by decide) (by decide) (by decide) (by decide) (by decide) dX5_init_15 (fun b2 H hP hD hS => ?_)
  have hP : va_P (dC, dI) vwCl [(a, .inr (5, [.ref b1, .null, .null, .int 0, .int 0, .null, .null])), (b1, .inl (cI, 24, .inl (fun _ => 0))), (b2, .inl (cI, 24, .inl (fun _ => 0)))] H := hP
  have hD : va_D A [(a, .inr (5, [.ref b1, .null, .null, .int 0, .int 0, .null, .null])), (b1, .inl (cI, 24, .inl (fun _ => 0))), (b2, .inl (cI, 24, .inl (fun _ => 0)))] := hD
  refine W.widen (k := 2) (n := 48) (by decide) (by decide) ?_
  refine va_putF (D := (dC, dI)) (ci := 5) (v := .ref b2) (ty := .array .int) (C := RX5) (T := TX5) (N := 7) hx hb hts hwX5_init_RX5 tyX5 tyX5_ok nmX5 hown hK hP hD hS 0 rfl rfl 1 (by decide) (hts _ mwX5_init_4) (fun _ h9 => h9) rfl hin rfl (by decide +kernel) rfl rfl (Nat.le_of_ble_eq_true rfl) dX5_init_17 (fun H locs hP hD hS => ?_)
  have hP : va_P (dC, dI) vwCl [(a, .inr (5, [.ref b1, .ref b2, .null, .int 0, .int 0, .null, .null])), (b1, .inl (cI, 24, .inl (fun _ => 0))), (b2, .inl (cI, 24, .inl (fun _ => 0)))] H := hP
  have hD : va_D A [(a, .inr (5, [.ref b1, .ref b2, .null, .int 0, .int 0, .null, .null])), (b1, .inl (cI, 24, .inl (fun _ => 0))), (b2, .inl (cI, 24, .inl (fun _ => 0)))] := hD
  refine lv_aload_n hx hb dX5_init_20 rfl (lv_at hl 0 rfl) ?_
  refine lv_bipush (v := (24 : Int32)) hx hb dX5_init_21 (by decide) ?_
  refine new_I C0 (hts _ mwX5_init_2) hP hD hS (N := 24) (by decide) (by decide) (by decide) (by decide) (by decide) dX5_init_23 (fun b3 H hP hD hS => ?_)
  have hP : va_P (dC, dI) vwCl [(a, .inr (5, [.ref b1, .ref b2, .null, .int 0, .int 0, .null, .null])), (b1, .inl (cI, 24, .inl (fun _ => 0))), (b2, .inl (cI, 24, .inl (fun _ => 0))), (b3, .inl (cI, 24, .inl (fun _ => 0)))] H := hP
  have hD : va_D A [(a, .inr (5, [.ref b1, .ref b2, .null, .int 0, .int 0, .null, .null])), (b1, .inl (cI, 24, .inl (fun _ => 0))), (b2, .inl (cI, 24, .inl (fun _ => 0))), (b3, .inl (cI, 24, .inl (fun _ => 0)))] := hD
  refine W.widen (k := 3) (n := 72) (by decide) (by decide) ?_
  refine va_putF (D := (dC, dI)) (ci := 5) (v := .ref b3) (ty := .array .int) (C := RX5) (T := TX5) (N := 7) hx hb hts hwX5_init_RX5 tyX5 tyX5_ok nmX5 hown hK hP hD hS 0 rfl rfl 2 (by decide) (hts _ mwX5_init_5) (fun _ h9 => h9) rfl hin rfl (by decide +kernel) rfl rfl (Nat.le_of_ble_eq_true rfl) dX5_init_25 (fun H locs hP hD hS => ?_)
  have hP : va_P (dC, dI) vwCl [(a, .inr (5, [.ref b1, .ref b2, .ref b3, .int 0, .int 0, .null, .null])), (b1, .inl (cI, 24, .inl (fun _ => 0))), (b2, .inl (cI, 24, .inl (fun _ => 0))), (b3, .inl (cI, 24, .inl (fun _ => 0)))] H := hP
  have hD : va_D A [(a, .inr (5, [.ref b1, .ref b2, .ref b3, .int 0, .int 0, .null, .null])), (b1, .inl (cI, 24, .inl (fun _ => 0))), (b2, .inl (cI, 24, .inl (fun _ => 0))), (b3, .inl (cI, 24, .inl (fun _ => 0)))] := hD
  refine lv_aload_n hx hb dX5_init_28 rfl (lv_at hl 0 rfl) ?_
  refine lv_aload_n hx hb dX5_init_29 rfl (lv_at hl 1 rfl) ?_
  refine va_putF (D := (dC, dI)) (ci := 5) (v := .ref a1) (ty := .object "SumsOver$Runner") (C := RX5) (T := TX5) (N := 7) hx hb hts hwX5_init_RX5 tyX5 tyX5_ok nmX5 hown hK hP hD hS 0 rfl rfl 5 (by decide) (hts _ mwX5_init_6) (fun _ h9 => h9) rfl hin rfl (by decide +kernel) rfl rfl (Nat.le_of_ble_eq_true rfl) dX5_init_30 (fun H locs hP hD hS => ?_)
  have hP : va_P (dC, dI) vwCl [(a, .inr (5, [.ref b1, .ref b2, .ref b3, .int 0, .int 0, .ref a1, .null])), (b1, .inl (cI, 24, .inl (fun _ => 0))), (b2, .inl (cI, 24, .inl (fun _ => 0))), (b3, .inl (cI, 24, .inl (fun _ => 0)))] H := hP
  have hD : va_D A [(a, .inr (5, [.ref b1, .ref b2, .ref b3, .int 0, .int 0, .ref a1, .null])), (b1, .inl (cI, 24, .inl (fun _ => 0))), (b2, .inl (cI, 24, .inl (fun _ => 0))), (b3, .inl (cI, 24, .inl (fun _ => 0)))] := hD
  refine lv_aload_n hx hb dX5_init_33 rfl (lv_at hl 0 rfl) ?_
  refine lv_aload_n hx hb dX5_init_34 rfl (lv_at hl 2 rfl) ?_
  refine va_putF (D := (dC, dI)) (ci := 5) (v := .ref a2) (ty := .object "SumsOver$Inputs") (C := RX5) (T := TX5) (N := 7) hx hb hts hwX5_init_RX5 tyX5 tyX5_ok nmX5 hown hK hP hD hS 0 rfl rfl 6 (by decide) (hts _ mwX5_init_7) (fun _ h9 => h9) rfl hin rfl (by decide +kernel) rfl rfl (Nat.le_of_ble_eq_true rfl) dX5_init_35 (fun H locs hP hD hS => ?_)
  have hP : va_P (dC, dI) vwCl [(a, .inr (5, [.ref b1, .ref b2, .ref b3, .int 0, .int 0, .ref a1, .ref a2])), (b1, .inl (cI, 24, .inl (fun _ => 0))), (b2, .inl (cI, 24, .inl (fun _ => 0))), (b3, .inl (cI, 24, .inl (fun _ => 0)))] H := hP
  have hD : va_D A [(a, .inr (5, [.ref b1, .ref b2, .ref b3, .int 0, .int 0, .ref a1, .ref a2])), (b1, .inl (cI, 24, .inl (fun _ => 0))), (b2, .inl (cI, 24, .inl (fun _ => 0))), (b3, .inl (cI, 24, .inl (fun _ => 0)))] := hD
  exact ret_N (W1 := (fun u => [(a, .inr (5, [.ref (u 0), .ref (u 1), .ref (u 2), .int 0, .int 0, .ref a1, .ref a2])), ((u 0), .inl (cI, 24, .inl (fun _ => 0))), ((u 1), .inl (cI, 24, .inl (fun _ => 0))), ((u 2), .inl (cI, 24, .inl (fun _ => 0)))])) C0 (fun i => [b1, b2, b3].getD i 0) hP hD hS dX5_init_38
/-! ### X2_init -/
theorem mwX2_init_0 : (.methodLink RX2 3 objectInit : Cond) ∈ wsX2_init := by decide +kernel
theorem mwX2_init_1 : (.instanceMethod objectInit : Cond) ∈ wsX2_init := by decide +kernel
theorem mwX2_init_2 : (.arrayClass .long : Cond) ∈ wsX2_init := by decide +kernel
theorem mwX2_init_3 : (.fieldLink RX2 9 "SumsOver$Reach" "least" "[J" : Cond) ∈ wsX2_init := by decide +kernel
set_option maxRecDepth 20000 in
theorem hwX2_init_RX2 : ∀ w ∈ u_ws RX2 TX2 9, w ∈ wsX2_init := by decide +kernel
theorem mwX2_init_4 : (.fieldLink RX2 15 "SumsOver$Reach" "greatest" "[J" : Cond) ∈ wsX2_init := by decide +kernel
theorem mwX2_init_5 : (.fieldLink RX2 18 "SumsOver$Reach" "names" "LSumsOver$Names;" : Cond) ∈ wsX2_init := by decide +kernel
theorem mwX2_init_6 : (.fieldLink RX2 22 "SumsOver$Reach" "steps" "LSumsOver$Steps;" : Cond) ∈ wsX2_init := by decide +kernel
theorem mwX2_init_7 : (.fieldLink RX2 26 "SumsOver$Reach" "inputs" "LSumsOver$Inputs;" : Cond) ∈ wsX2_init := by decide +kernel
def rmX2_init : Room := { frames := 1, cells := 2, slots := 12, locals := 12 }
set_option maxHeartbeats 8000000 in
set_option maxRecDepth 100000 in
theorem kX2_init (l : Launch) (dC : Nat → ClassId) (dI : Nat → Nat → Nat) (cI cJ cZ : ClassId) (a a1 a2 a3 : Nat) : CtN l yX2_init wsX2_init rmX2_init (dC, dI) (ty3 cI cJ cZ) [(a, .inr (2, [.null, .null, .int 0, .int 0, .long 0, .long 0, .null, .null, .null]))] [.ref a, .ref a1, .ref a2, .ref a3] (fun u => [(a, .inr (2, [.ref (u 0), .ref (u 1), .int 0, .int 0, .long 0, .long 0, .ref a1, .ref a2, .ref a3])), ((u 0), .inl (cJ, 6, .inr (.inl (fun _ => 0)))), ((u 1), .inl (cJ, 6, .inr (.inl (fun _ => 0))))]) 2 12 := by
  intro sz
  refine cn_entry (cc := cX2_init) (maxL := 4) (ret := none) (own := RX2) (by decide) rfl rfl (Nat.le_of_ble_eq_true rfl) (ll := [(0, .ref a), (1, .ref a1), (2, .ref a2), (3, .ref a3)]) rfl ?_
  intro p e s m args below meth c hsz C0 hin hP hD ls hl
  have C1 := C0
  obtain ⟨hx, hb, hr, hml, hown, hts, hlocks, hN, hK, hA⟩ := C1
  have hS : va_S (va_A [(a, .inr (2, [.null, .null, .int 0, .int 0, .long 0, .long 0, .null, .null, .null]))] sz) s.heap s.heap [] := va_S.rf
  generalize va_A [(a, .inr (2, [.null, .null, .int 0, .int 0, .long 0, .long 0, .null, .null, .null]))] sz = A at C0 hD hA hS ⊢
  show W p l e rmX2_init s m args below meth c s.heap [] 0 0 (QN below args s A (dC, dI) (ty3 cI cJ cZ) (fun u => [(a, .inr (2, [.ref (u 0), .ref (u 1), .int 0, .int 0, .long 0, .long 0, .ref a1, .ref a2, .ref a3])), ((u 0), .inl (cJ, 6, .inr (.inl (fun _ => 0)))), ((u 1), .inl (cJ, 6, .inr (.inl (fun _ => 0))))]) 2 12) (F0 m 0 ls [])
  refine lv_aload_n hx hb dX2_init_0 rfl (lv_at hl 0 rfl) ?_
  refine W.objInit hx hb hown (hts _ mwX2_init_0) (hts _ mwX2_init_1) (hts _ (List.mem_of_getElem? (l := wsX2_init) (i := 3) rfl)) rfl (by rw [hml]; exact hl.1) rfl dX2_init_1 (Nat.le_of_ble_eq_true rfl) (Nat.le_of_ble_eq_true rfl) ?_
  refine W.eq (g2 := F0 m 4 ls []) rfl ?_
  refine lv_aload_n hx hb dX2_init_4 rfl (lv_at hl 0 rfl) ?_
  refine lv_bipush (v := (6 : Int32)) hx hb dX2_init_5 (by decide) ?_
  refine new_J C0 (hts _ mwX2_init_2) hP hD hS (N := 6) (by decide) (by decide) (by decide) (by decide) (by decide) dX2_init_7 (fun b1 H hP hD hS => ?_)
  have hP : va_P (dC, dI) vwCl [(a, .inr (2, [.null, .null, .int 0, .int 0, .long 0, .long 0, .null, .null, .null])), (b1, .inl (cJ, 6, .inr (.inl (fun _ => 0))))] H := hP
  have hD : va_D A [(a, .inr (2, [.null, .null, .int 0, .int 0, .long 0, .long 0, .null, .null, .null])), (b1, .inl (cJ, 6, .inr (.inl (fun _ => 0))))] := hD
  refine W.widen (k := 1) (n := 6) (by decide) (by decide) ?_
  refine va_putF (D := (dC, dI)) (ci := 2) (v := .ref b1) (ty := .array .long) (C := RX2) (T := TX2) (N := 9) hx hb hts hwX2_init_RX2 tyX2 tyX2_ok nmX2 hown hK hP hD hS 0 rfl rfl 0 (by decide) (hts _ mwX2_init_3) (fun _ h9 => h9) rfl hin rfl (by decide +kernel) rfl rfl (Nat.le_of_ble_eq_true rfl) dX2_init_9 (fun H locs hP hD hS => ?_)
  have hP : va_P (dC, dI) vwCl [(a, .inr (2, [.ref b1, .null, .int 0, .int 0, .long 0, .long 0, .null, .null, .null])), (b1, .inl (cJ, 6, .inr (.inl (fun _ => 0))))] H := hP
  have hD : va_D A [(a, .inr (2, [.ref b1, .null, .int 0, .int 0, .long 0, .long 0, .null, .null, .null])), (b1, .inl (cJ, 6, .inr (.inl (fun _ => 0))))] := hD
  refine lv_aload_n hx hb dX2_init_12 rfl (lv_at hl 0 rfl) ?_
  refine lv_bipush (v := (6 : Int32)) hx hb dX2_init_13 (by decide) ?_
  refine new_J C0 (hts _ mwX2_init_2) hP hD hS (N := 6) (by decide) (by decide) (by decide) (by decide) (by decide) dX2_init_15 (fun b2 H hP hD hS => ?_)
  have hP : va_P (dC, dI) vwCl [(a, .inr (2, [.ref b1, .null, .int 0, .int 0, .long 0, .long 0, .null, .null, .null])), (b1, .inl (cJ, 6, .inr (.inl (fun _ => 0)))), (b2, .inl (cJ, 6, .inr (.inl (fun _ => 0))))] H := hP
  have hD : va_D A [(a, .inr (2, [.ref b1, .null, .int 0, .int 0, .long 0, .long 0, .null, .null, .null])), (b1, .inl (cJ, 6, .inr (.inl (fun _ => 0)))), (b2, .inl (cJ, 6, .inr (.inl (fun _ => 0))))] := hD
  refine W.widen (k := 2) (n := 12) (by decide) (by decide) ?_
  refine va_putF (D := (dC, dI)) (ci := 2) (v := .ref b2) (ty := .array .long) (C := RX2) (T := TX2) (N := 9) hx hb hts hwX2_init_RX2 tyX2 tyX2_ok nmX2 hown hK hP hD hS 0 rfl rfl 1 (by decide) (hts _ mwX2_init_4) (fun _ h9 => h9) rfl hin rfl (by decide +kernel) rfl rfl (Nat.le_of_ble_eq_true rfl) dX2_init_17 (fun H locs hP hD hS => ?_)
  have hP : va_P (dC, dI) vwCl [(a, .inr (2, [.ref b1, .ref b2, .int 0, .int 0, .long 0, .long 0, .null, .null, .null])), (b1, .inl (cJ, 6, .inr (.inl (fun _ => 0)))), (b2, .inl (cJ, 6, .inr (.inl (fun _ => 0))))] H := hP
  have hD : va_D A [(a, .inr (2, [.ref b1, .ref b2, .int 0, .int 0, .long 0, .long 0, .null, .null, .null])), (b1, .inl (cJ, 6, .inr (.inl (fun _ => 0)))), (b2, .inl (cJ, 6, .inr (.inl (fun _ => 0))))] := hD
  refine lv_aload_n hx hb dX2_init_20 rfl (lv_at hl 0 rfl) ?_
  refine lv_aload_n hx hb dX2_init_21 rfl (lv_at hl 1 rfl) ?_
  refine va_putF (D := (dC, dI)) (ci := 2) (v := .ref a1) (ty := .object "SumsOver$Names") (C := RX2) (T := TX2) (N := 9) hx hb hts hwX2_init_RX2 tyX2 tyX2_ok nmX2 hown hK hP hD hS 0 rfl rfl 6 (by decide) (hts _ mwX2_init_5) (fun _ h9 => h9) rfl hin rfl (by decide +kernel) rfl rfl (Nat.le_of_ble_eq_true rfl) dX2_init_22 (fun H locs hP hD hS => ?_)
  have hP : va_P (dC, dI) vwCl [(a, .inr (2, [.ref b1, .ref b2, .int 0, .int 0, .long 0, .long 0, .ref a1, .null, .null])), (b1, .inl (cJ, 6, .inr (.inl (fun _ => 0)))), (b2, .inl (cJ, 6, .inr (.inl (fun _ => 0))))] H := hP
  have hD : va_D A [(a, .inr (2, [.ref b1, .ref b2, .int 0, .int 0, .long 0, .long 0, .ref a1, .null, .null])), (b1, .inl (cJ, 6, .inr (.inl (fun _ => 0)))), (b2, .inl (cJ, 6, .inr (.inl (fun _ => 0))))] := hD
  refine lv_aload_n hx hb dX2_init_25 rfl (lv_at hl 0 rfl) ?_
  refine lv_aload_n hx hb dX2_init_26 rfl (lv_at hl 2 rfl) ?_
  refine va_putF (D := (dC, dI)) (ci := 2) (v := .ref a2) (ty := .object "SumsOver$Steps") (C := RX2) (T := TX2) (N := 9) hx hb hts hwX2_init_RX2 tyX2 tyX2_ok nmX2 hown hK hP hD hS 0 rfl rfl 7 (by decide) (hts _ mwX2_init_6) (fun _ h9 => h9) rfl hin rfl (by decide +kernel) rfl rfl (Nat.le_of_ble_eq_true rfl) dX2_init_27 (fun H locs hP hD hS => ?_)
  have hP : va_P (dC, dI) vwCl [(a, .inr (2, [.ref b1, .ref b2, .int 0, .int 0, .long 0, .long 0, .ref a1, .ref a2, .null])), (b1, .inl (cJ, 6, .inr (.inl (fun _ => 0)))), (b2, .inl (cJ, 6, .inr (.inl (fun _ => 0))))] H := hP
  have hD : va_D A [(a, .inr (2, [.ref b1, .ref b2, .int 0, .int 0, .long 0, .long 0, .ref a1, .ref a2, .null])), (b1, .inl (cJ, 6, .inr (.inl (fun _ => 0)))), (b2, .inl (cJ, 6, .inr (.inl (fun _ => 0))))] := hD
  refine lv_aload_n hx hb dX2_init_30 rfl (lv_at hl 0 rfl) ?_
  refine lv_aload_n hx hb dX2_init_31 rfl (lv_at hl 3 rfl) ?_
  refine va_putF (D := (dC, dI)) (ci := 2) (v := .ref a3) (ty := .object "SumsOver$Inputs") (C := RX2) (T := TX2) (N := 9) hx hb hts hwX2_init_RX2 tyX2 tyX2_ok nmX2 hown hK hP hD hS 0 rfl rfl 8 (by decide) (hts _ mwX2_init_7) (fun _ h9 => h9) rfl hin rfl (by decide +kernel) rfl rfl (Nat.le_of_ble_eq_true rfl) dX2_init_32 (fun H locs hP hD hS => ?_)
  have hP : va_P (dC, dI) vwCl [(a, .inr (2, [.ref b1, .ref b2, .int 0, .int 0, .long 0, .long 0, .ref a1, .ref a2, .ref a3])), (b1, .inl (cJ, 6, .inr (.inl (fun _ => 0)))), (b2, .inl (cJ, 6, .inr (.inl (fun _ => 0))))] H := hP
  have hD : va_D A [(a, .inr (2, [.ref b1, .ref b2, .int 0, .int 0, .long 0, .long 0, .ref a1, .ref a2, .ref a3])), (b1, .inl (cJ, 6, .inr (.inl (fun _ => 0)))), (b2, .inl (cJ, 6, .inr (.inl (fun _ => 0))))] := hD
  exact ret_N (W1 := (fun u => [(a, .inr (2, [.ref (u 0), .ref (u 1), .int 0, .int 0, .long 0, .long 0, .ref a1, .ref a2, .ref a3])), ((u 0), .inl (cJ, 6, .inr (.inl (fun _ => 0)))), ((u 1), .inl (cJ, 6, .inr (.inl (fun _ => 0))))])) C0 (fun i => [b1, b2].getD i 0) hP hD hS dX2_init_35
/-! ### X6_init -/
theorem mwX6_init_0 : (.methodLink RX6 3 objectInit : Cond) ∈ wsX6_init := by decide +kernel
theorem mwX6_init_1 : (.instanceMethod objectInit : Cond) ∈ wsX6_init := by decide +kernel
theorem mwX6_init_2 : (.arrayClass .long : Cond) ∈ wsX6_init := by decide +kernel
theorem mwX6_init_3 : (.fieldLink RX6 9 "SumsOver$Trues" "least" "[J" : Cond) ∈ wsX6_init := by decide +kernel
set_option maxRecDepth 20000 in
theorem hwX6_init_RX6 : ∀ w ∈ u_ws RX6 TX6 7, w ∈ wsX6_init := by decide +kernel
theorem mwX6_init_4 : (.fieldLink RX6 15 "SumsOver$Trues" "greatest" "[J" : Cond) ∈ wsX6_init := by decide +kernel
theorem mwX6_init_5 : (.fieldLink RX6 18 "SumsOver$Trues" "values" "[J" : Cond) ∈ wsX6_init := by decide +kernel
theorem mwX6_init_6 : (.fieldLink RX6 21 "SumsOver$Trues" "steps" "LSumsOver$Steps;" : Cond) ∈ wsX6_init := by decide +kernel
theorem mwX6_init_7 : (.fieldLink RX6 25 "SumsOver$Trues" "inputs" "LSumsOver$Inputs;" : Cond) ∈ wsX6_init := by decide +kernel
def rmX6_init : Room := { frames := 1, cells := 3, slots := 18, locals := 12 }
set_option maxHeartbeats 8000000 in
set_option maxRecDepth 100000 in
theorem kX6_init (l : Launch) (dC : Nat → ClassId) (dI : Nat → Nat → Nat) (cI cJ cZ : ClassId) (a a1 a2 : Nat) : CtN l yX6_init wsX6_init rmX6_init (dC, dI) (ty3 cI cJ cZ) [(a, .inr (6, [.null, .null, .int 0, .int 0, .null, .null, .null]))] [.ref a, .ref a1, .ref a2] (fun u => [(a, .inr (6, [.ref (u 0), .ref (u 1), .int 0, .int 0, .ref (u 2), .ref a1, .ref a2])), ((u 0), .inl (cJ, 6, .inr (.inl (fun _ => 0)))), ((u 1), .inl (cJ, 6, .inr (.inl (fun _ => 0)))), ((u 2), .inl (cJ, 6, .inr (.inl (fun _ => 0))))]) 3 18 := by
  intro sz
  refine cn_entry (cc := cX6_init) (maxL := 3) (ret := none) (own := RX6) (by decide) rfl rfl (Nat.le_of_ble_eq_true rfl) (ll := [(0, .ref a), (1, .ref a1), (2, .ref a2)]) rfl ?_
  intro p e s m args below meth c hsz C0 hin hP hD ls hl
  have C1 := C0
  obtain ⟨hx, hb, hr, hml, hown, hts, hlocks, hN, hK, hA⟩ := C1
  have hS : va_S (va_A [(a, .inr (6, [.null, .null, .int 0, .int 0, .null, .null, .null]))] sz) s.heap s.heap [] := va_S.rf
  generalize va_A [(a, .inr (6, [.null, .null, .int 0, .int 0, .null, .null, .null]))] sz = A at C0 hD hA hS ⊢
  show W p l e rmX6_init s m args below meth c s.heap [] 0 0 (QN below args s A (dC, dI) (ty3 cI cJ cZ) (fun u => [(a, .inr (6, [.ref (u 0), .ref (u 1), .int 0, .int 0, .ref (u 2), .ref a1, .ref a2])), ((u 0), .inl (cJ, 6, .inr (.inl (fun _ => 0)))), ((u 1), .inl (cJ, 6, .inr (.inl (fun _ => 0)))), ((u 2), .inl (cJ, 6, .inr (.inl (fun _ => 0))))]) 3 18) (F0 m 0 ls [])
  refine lv_aload_n hx hb dX6_init_0 rfl (lv_at hl 0 rfl) ?_
  refine W.objInit hx hb hown (hts _ mwX6_init_0) (hts _ mwX6_init_1) (hts _ (List.mem_of_getElem? (l := wsX6_init) (i := 3) rfl)) rfl (by rw [hml]; exact hl.1) rfl dX6_init_1 (Nat.le_of_ble_eq_true rfl) (Nat.le_of_ble_eq_true rfl) ?_
  refine W.eq (g2 := F0 m 4 ls []) rfl ?_
  refine lv_aload_n hx hb dX6_init_4 rfl (lv_at hl 0 rfl) ?_
  refine lv_bipush (v := (6 : Int32)) hx hb dX6_init_5 (by decide) ?_
  refine new_J C0 (hts _ mwX6_init_2) hP hD hS (N := 6) (by decide) (by decide) (by decide) (by decide) (by decide) dX6_init_7 (fun b1 H hP hD hS => ?_)
  have hP : va_P (dC, dI) vwCl [(a, .inr (6, [.null, .null, .int 0, .int 0, .null, .null, .null])), (b1, .inl (cJ, 6, .inr (.inl (fun _ => 0))))] H := hP
  have hD : va_D A [(a, .inr (6, [.null, .null, .int 0, .int 0, .null, .null, .null])), (b1, .inl (cJ, 6, .inr (.inl (fun _ => 0))))] := hD
  refine W.widen (k := 1) (n := 6) (by decide) (by decide) ?_
  refine va_putF (D := (dC, dI)) (ci := 6) (v := .ref b1) (ty := .array .long) (C := RX6) (T := TX6) (N := 7) hx hb hts hwX6_init_RX6 tyX6 tyX6_ok nmX6 hown hK hP hD hS 0 rfl rfl 0 (by decide) (hts _ mwX6_init_3) (fun _ h9 => h9) rfl hin rfl (by decide +kernel) rfl rfl (Nat.le_of_ble_eq_true rfl) dX6_init_9 (fun H locs hP hD hS => ?_)
  have hP : va_P (dC, dI) vwCl [(a, .inr (6, [.ref b1, .null, .int 0, .int 0, .null, .null, .null])), (b1, .inl (cJ, 6, .inr (.inl (fun _ => 0))))] H := hP
  have hD : va_D A [(a, .inr (6, [.ref b1, .null, .int 0, .int 0, .null, .null, .null])), (b1, .inl (cJ, 6, .inr (.inl (fun _ => 0))))] := hD
  refine lv_aload_n hx hb dX6_init_12 rfl (lv_at hl 0 rfl) ?_
  refine lv_bipush (v := (6 : Int32)) hx hb dX6_init_13 (by decide) ?_
  refine new_J C0 (hts _ mwX6_init_2) hP hD hS (N := 6) (by decide) (by decide) (by decide) (by decide) (by decide) dX6_init_15 (fun b2 H hP hD hS => ?_)
  have hP : va_P (dC, dI) vwCl [(a, .inr (6, [.ref b1, .null, .int 0, .int 0, .null, .null, .null])), (b1, .inl (cJ, 6, .inr (.inl (fun _ => 0)))), (b2, .inl (cJ, 6, .inr (.inl (fun _ => 0))))] H := hP
  have hD : va_D A [(a, .inr (6, [.ref b1, .null, .int 0, .int 0, .null, .null, .null])), (b1, .inl (cJ, 6, .inr (.inl (fun _ => 0)))), (b2, .inl (cJ, 6, .inr (.inl (fun _ => 0))))] := hD
  refine W.widen (k := 2) (n := 12) (by decide) (by decide) ?_
  refine va_putF (D := (dC, dI)) (ci := 6) (v := .ref b2) (ty := .array .long) (C := RX6) (T := TX6) (N := 7) hx hb hts hwX6_init_RX6 tyX6 tyX6_ok nmX6 hown hK hP hD hS 0 rfl rfl 1 (by decide) (hts _ mwX6_init_4) (fun _ h9 => h9) rfl hin rfl (by decide +kernel) rfl rfl (Nat.le_of_ble_eq_true rfl) dX6_init_17 (fun H locs hP hD hS => ?_)
  have hP : va_P (dC, dI) vwCl [(a, .inr (6, [.ref b1, .ref b2, .int 0, .int 0, .null, .null, .null])), (b1, .inl (cJ, 6, .inr (.inl (fun _ => 0)))), (b2, .inl (cJ, 6, .inr (.inl (fun _ => 0))))] H := hP
  have hD : va_D A [(a, .inr (6, [.ref b1, .ref b2, .int 0, .int 0, .null, .null, .null])), (b1, .inl (cJ, 6, .inr (.inl (fun _ => 0)))), (b2, .inl (cJ, 6, .inr (.inl (fun _ => 0))))] := hD
  refine lv_aload_n hx hb dX6_init_20 rfl (lv_at hl 0 rfl) ?_
  refine lv_bipush (v := (6 : Int32)) hx hb dX6_init_21 (by decide) ?_
  refine new_J C0 (hts _ mwX6_init_2) hP hD hS (N := 6) (by decide) (by decide) (by decide) (by decide) (by decide) dX6_init_23 (fun b3 H hP hD hS => ?_)
  have hP : va_P (dC, dI) vwCl [(a, .inr (6, [.ref b1, .ref b2, .int 0, .int 0, .null, .null, .null])), (b1, .inl (cJ, 6, .inr (.inl (fun _ => 0)))), (b2, .inl (cJ, 6, .inr (.inl (fun _ => 0)))), (b3, .inl (cJ, 6, .inr (.inl (fun _ => 0))))] H := hP
  have hD : va_D A [(a, .inr (6, [.ref b1, .ref b2, .int 0, .int 0, .null, .null, .null])), (b1, .inl (cJ, 6, .inr (.inl (fun _ => 0)))), (b2, .inl (cJ, 6, .inr (.inl (fun _ => 0)))), (b3, .inl (cJ, 6, .inr (.inl (fun _ => 0))))] := hD
  refine W.widen (k := 3) (n := 18) (by decide) (by decide) ?_
  refine va_putF (D := (dC, dI)) (ci := 6) (v := .ref b3) (ty := .array .long) (C := RX6) (T := TX6) (N := 7) hx hb hts hwX6_init_RX6 tyX6 tyX6_ok nmX6 hown hK hP hD hS 0 rfl rfl 4 (by decide) (hts _ mwX6_init_5) (fun _ h9 => h9) rfl hin rfl (by decide +kernel) rfl rfl (Nat.le_of_ble_eq_true rfl) dX6_init_25 (fun H locs hP hD hS => ?_)
  have hP : va_P (dC, dI) vwCl [(a, .inr (6, [.ref b1, .ref b2, .int 0, .int 0, .ref b3, .null, .null])), (b1, .inl (cJ, 6, .inr (.inl (fun _ => 0)))), (b2, .inl (cJ, 6, .inr (.inl (fun _ => 0)))), (b3, .inl (cJ, 6, .inr (.inl (fun _ => 0))))] H := hP
  have hD : va_D A [(a, .inr (6, [.ref b1, .ref b2, .int 0, .int 0, .ref b3, .null, .null])), (b1, .inl (cJ, 6, .inr (.inl (fun _ => 0)))), (b2, .inl (cJ, 6, .inr (.inl (fun _ => 0)))), (b3, .inl (cJ, 6, .inr (.inl (fun _ => 0))))] := hD
  refine lv_aload_n hx hb dX6_init_28 rfl (lv_at hl 0 rfl) ?_
  refine lv_aload_n hx hb dX6_init_29 rfl (lv_at hl 1 rfl) ?_
  refine va_putF (D := (dC, dI)) (ci := 6) (v := .ref a1) (ty := .object "SumsOver$Steps") (C := RX6) (T := TX6) (N := 7) hx hb hts hwX6_init_RX6 tyX6 tyX6_ok nmX6 hown hK hP hD hS 0 rfl rfl 5 (by decide) (hts _ mwX6_init_6) (fun _ h9 => h9) rfl hin rfl (by decide +kernel) rfl rfl (Nat.le_of_ble_eq_true rfl) dX6_init_30 (fun H locs hP hD hS => ?_)
  have hP : va_P (dC, dI) vwCl [(a, .inr (6, [.ref b1, .ref b2, .int 0, .int 0, .ref b3, .ref a1, .null])), (b1, .inl (cJ, 6, .inr (.inl (fun _ => 0)))), (b2, .inl (cJ, 6, .inr (.inl (fun _ => 0)))), (b3, .inl (cJ, 6, .inr (.inl (fun _ => 0))))] H := hP
  have hD : va_D A [(a, .inr (6, [.ref b1, .ref b2, .int 0, .int 0, .ref b3, .ref a1, .null])), (b1, .inl (cJ, 6, .inr (.inl (fun _ => 0)))), (b2, .inl (cJ, 6, .inr (.inl (fun _ => 0)))), (b3, .inl (cJ, 6, .inr (.inl (fun _ => 0))))] := hD
  refine lv_aload_n hx hb dX6_init_33 rfl (lv_at hl 0 rfl) ?_
  refine lv_aload_n hx hb dX6_init_34 rfl (lv_at hl 2 rfl) ?_
  refine va_putF (D := (dC, dI)) (ci := 6) (v := .ref a2) (ty := .object "SumsOver$Inputs") (C := RX6) (T := TX6) (N := 7) hx hb hts hwX6_init_RX6 tyX6 tyX6_ok nmX6 hown hK hP hD hS 0 rfl rfl 6 (by decide) (hts _ mwX6_init_7) (fun _ h9 => h9) rfl hin rfl (by decide +kernel) rfl rfl (Nat.le_of_ble_eq_true rfl) dX6_init_35 (fun H locs hP hD hS => ?_)
  have hP : va_P (dC, dI) vwCl [(a, .inr (6, [.ref b1, .ref b2, .int 0, .int 0, .ref b3, .ref a1, .ref a2])), (b1, .inl (cJ, 6, .inr (.inl (fun _ => 0)))), (b2, .inl (cJ, 6, .inr (.inl (fun _ => 0)))), (b3, .inl (cJ, 6, .inr (.inl (fun _ => 0))))] H := hP
  have hD : va_D A [(a, .inr (6, [.ref b1, .ref b2, .int 0, .int 0, .ref b3, .ref a1, .ref a2])), (b1, .inl (cJ, 6, .inr (.inl (fun _ => 0)))), (b2, .inl (cJ, 6, .inr (.inl (fun _ => 0)))), (b3, .inl (cJ, 6, .inr (.inl (fun _ => 0))))] := hD
  exact ret_N (W1 := (fun u => [(a, .inr (6, [.ref (u 0), .ref (u 1), .int 0, .int 0, .ref (u 2), .ref a1, .ref a2])), ((u 0), .inl (cJ, 6, .inr (.inl (fun _ => 0)))), ((u 1), .inl (cJ, 6, .inr (.inl (fun _ => 0)))), ((u 2), .inl (cJ, 6, .inr (.inl (fun _ => 0))))])) C0 (fun i => [b1, b2, b3].getD i 0) hP hD hS dX6_init_38
