theorem set_same {α : Type} {l : List α} {k : Nat} {x : α} (h : l[k]? = some x) : l.set k x = l := by
  have hk : k < l.length := (List.getElem?_eq_some_iff.mp h).1
  refine List.ext_getElem? (fun j => ?_)
  by_cases e : k = j
  · subst e
    rw [List.getElem?_set_self hk, h]
  · rw [List.getElem?_set_ne e]
/-- the first N of a row, all v -/
def flI (N : Nat) (v : Int32) (f : Nat → Int32) : Nat → Int32 := fun j => if j < N then v else f j
def flL (N : Nat) (v : Int64) (f : Nat → Int64) : Nat → Int64 := fun j => if j < N then v else f j
theorem flI_0 (v : Int32) (f : Nat → Int32) : flI 0 v f = f := by funext j; simp [flI]
theorem flL_0 (v : Int64) (f : Nat → Int64) : flL 0 v f = f := by funext j; simp [flL]
theorem flI_s (i : Nat) (v : Int32) (f : Nat → Int32) : upd (flI i v f) i v = flI (i + 1) v f := by
  funext j
  simp only [upd, flI]
  by_cases h : j = i
  · subst h; simp
  · by_cases h2 : j < i
    · simp [h, h2, Nat.lt_succ_of_lt h2]
    · have h3 : ¬ j < i + 1 := by omega
      simp [h, h2, h3]
theorem flL_s (i : Nat) (v : Int64) (f : Nat → Int64) : vp_updL (flL i v f) i v = flL (i + 1) v f := by
  funext j
  simp only [vp_updL, flL]
  by_cases h : j = i
  · subst h; simp
  · by_cases h2 : j < i
    · simp [h, h2, Nat.lt_succ_of_lt h2]
    · have h3 : ¬ j < i + 1 := by omega
      simp [h, h2, h3]
def rmfill : Room := { frames := 0, cells := 0, slots := 0, locals := 0 }
set_option maxHeartbeats 4000000 in
set_option maxRecDepth 100000 in
theorem kflI (l : Launch) (D : va_G) (T : TyL) (W0 : va_W) (k a : Nat) (cA : ClassId) (N : Nat) (f : Nat → Int32) (v : Int32) (ha : W0[k]? = some (a, .inl (cA, N, .inl f))) (ht : T[0]? = some (cA, .int)) (hN : N < 2 ^ 31) : CtV l yJ7_fill_53178 wsJ7_fill_53178 rmfill D T W0 [.ref a, .int v] (W0.set k (a, .inl (cA, N, .inl (flI N v f)))) := by
  intro sz
  refine ct_entry (cc := cJ7_fill_53178) (maxL := 4) (ret := none) (own := RJ7) (by decide) rfl rfl (Nat.le_of_ble_eq_true rfl) (ll := [(0, .ref a), (1, .int v)]) rfl ?_
  intro p e s m args below meth c hsz C0 _ hP hD ls hl
  have C1 := C0
  obtain ⟨hx, hb, hr, hml, hown, hts, hlocks, hN0, hK, hA⟩ := C1
  have hS : va_S (va_A W0 sz) s.heap s.heap [] := va_S.rf
  generalize va_A W0 sz = A at C0 hD hA hS ⊢
  show W p l e rmfill s m args below meth c s.heap [] 0 0 (QV below args s A D T (W0.set k (a, .inl (cA, N, .inl (flI N v f))))) (F0 m 0 ls [])
  have hk : k < W0.length := (List.getElem?_eq_some_iff.mp ha).1
  have key : ∀ (n i : Nat) (H : Heap) (locs : List Loc) (ls : Array Slot), i ≤ N → N - i < n → va_P D vwCl (W0.set k (a, .inl (cA, N, .inl (flI i v f)))) H → va_D A (W0.set k (a, .inl (cA, N, .inl (flI i v f)))) → va_S A s.heap H locs → lv_has ls 4 [(2, .int (nI i)), (3, .int (nI N)), (0, .ref a), (1, .int v)] → W p l e rmfill s m args below meth c H locs 0 0 (QV below args s A D T (W0.set k (a, .inl (cA, N, .inl (flI N v f))))) (F0 m 5 ls []) := by
    intro n
    induction n with
    | zero => intro i H locs ls h1 h2; omega
    | succ n ih =>
      intro i H locs ls hi hn hP hD hS hl
      refine lv_iload_n hx hb dJ7_fill_53178_5 rfl (lv_at hl 0 rfl) ?_
      refine lv_iload_n hx hb dJ7_fill_53178_6 rfl (lv_at hl 1 rfl) ?_
      refine lv_icmp_ge (tgt := 20) hx hb dJ7_fill_53178_7 (by decide) (fun c_1 => ?_) (fun c_1 => ?_)
      · have e1 : i = N := by
          rw [nI_leI hN (by omega)] at c_1
          omega
        subst e1
        exact ret_V C0 hP hD hS dJ7_fill_53178_20
      · have hlt : i < N := by
          rw [nI_leI hN (by omega)] at c_1
          omega
        refine lv_aload_n hx hb dJ7_fill_53178_10 rfl (lv_at hl 2 rfl) ?_
        refine lv_iload_n hx hb dJ7_fill_53178_11 rfl (lv_at hl 0 rfl) ?_
        refine lv_iload_n hx hb dJ7_fill_53178_12 rfl (lv_at hl 3 rfl) ?_
        refine va_iast (D := D) (cl := vwCl) hx hb hK hP hD hS k 0 (List.getElem?_set_self hk) ht (vp_in_nI hlt hN) dJ7_fill_53178_13 (fun H locs hP hD hS => ?_)
        rw [List.set_set, nI_clamp (by omega), flI_s] at hP hD
        refine lv_iinc (v := nI (i + 1)) (lv' := [(2, .int (nI (i + 1))), (3, .int (nI N)), (0, .ref a), (1, .int v)]) hx hb dJ7_fill_53178_14 hl (k := 0) rfl (nI_1 i) (by decide) rfl (fun ls hl => ?_)
        refine lv_goto (tgt := 5) hx hb dJ7_fill_53178_17 (by decide) ?_
        exact ih (i + 1) _ _ ls (by omega) (by omega) hP hD hS hl
  refine lv_iconst (v := (0 : Int32)) hx hb dJ7_fill_53178_0 (by decide) ?_
  refine lv_istore_n (lv' := [(2, .int (0 : Int32)), (0, .ref a), (1, .int v)]) hx hb dJ7_fill_53178_1 rfl hl (by decide) rfl (fun ls hl => ?_)
  refine lv_aload_n hx hb dJ7_fill_53178_2 rfl (lv_at hl 1 rfl) ?_
  refine va_alen (D := D) (cl := vwCl) hx hb hK hP k 0 ha ht (v := nI N) rfl dJ7_fill_53178_3 ?_
  refine lv_istore_n (lv' := [(3, .int (nI N)), (2, .int (0 : Int32)), (0, .ref a), (1, .int v)]) hx hb dJ7_fill_53178_4 rfl hl (by decide) rfl (fun ls hl => ?_)
  refine key (N + 1) 0 _ _ ls (Nat.zero_le _) (by omega) ?_ ?_ hS (lv_sub hl [1, 0, 2, 3] rfl)
  · rw [flI_0, set_same ha]; exact hP
  · rw [flI_0, set_same ha]; exact hD
set_option maxHeartbeats 4000000 in
set_option maxRecDepth 100000 in
theorem kflL (l : Launch) (D : va_G) (T : TyL) (W0 : va_W) (k a : Nat) (cA : ClassId) (N : Nat) (f : Nat → Int64) (v : Int64) (ha : W0[k]? = some (a, .inl (cA, N, .inr (.inl f)))) (ht : T[1]? = some (cA, .long)) (hN : N < 2 ^ 31) : CtV l yJ7_fill_d0a16 wsJ7_fill_d0a16 rmfill D T W0 [.ref a, .long v] (W0.set k (a, .inl (cA, N, .inr (.inl (flL N v f))))) := by
  intro sz
  refine ct_entry (cc := cJ7_fill_d0a16) (maxL := 5) (ret := none) (own := RJ7) (by decide) rfl rfl (Nat.le_of_ble_eq_true rfl) (ll := [(0, .ref a), (1, .long v)]) rfl ?_
  intro p e s m args below meth c hsz C0 _ hP hD ls hl
  have C1 := C0
  obtain ⟨hx, hb, hr, hml, hown, hts, hlocks, hN0, hK, hA⟩ := C1
  have hS : va_S (va_A W0 sz) s.heap s.heap [] := va_S.rf
  generalize va_A W0 sz = A at C0 hD hA hS ⊢
  show W p l e rmfill s m args below meth c s.heap [] 0 0 (QV below args s A D T (W0.set k (a, .inl (cA, N, .inr (.inl (flL N v f)))))) (F0 m 0 ls [])
  have hk : k < W0.length := (List.getElem?_eq_some_iff.mp ha).1
  have key : ∀ (n i : Nat) (H : Heap) (locs : List Loc) (ls : Array Slot), i ≤ N → N - i < n → va_P D vwCl (W0.set k (a, .inl (cA, N, .inr (.inl (flL i v f))))) H → va_D A (W0.set k (a, .inl (cA, N, .inr (.inl (flL i v f))))) → va_S A s.heap H locs → lv_has ls 5 [(3, .int (nI i)), (4, .int (nI N)), (0, .ref a), (1, .long v)] → W p l e rmfill s m args below meth c H locs 0 0 (QV below args s A D T (W0.set k (a, .inl (cA, N, .inr (.inl (flL N v f)))))) (F0 m 6 ls []) := by
    intro n
    induction n with
    | zero => intro i H locs ls h1 h2; omega
    | succ n ih =>
      intro i H locs ls hi hn hP hD hS hl
      refine lv_iload_n hx hb dJ7_fill_d0a16_6 rfl (lv_at hl 0 rfl) ?_
      refine lv_iload hx hb dJ7_fill_d0a16_7 (lv_at hl 1 rfl) ?_
      refine lv_icmp_ge (tgt := 22) hx hb dJ7_fill_d0a16_9 (by decide) (fun c_1 => ?_) (fun c_1 => ?_)
      · have e1 : i = N := by
          rw [nI_leI hN (by omega)] at c_1
          omega
        subst e1
        exact ret_V C0 hP hD hS dJ7_fill_d0a16_22
      · have hlt : i < N := by
          rw [nI_leI hN (by omega)] at c_1
          omega
        refine lv_aload_n hx hb dJ7_fill_d0a16_12 rfl (lv_at hl 2 rfl) ?_
        refine lv_iload_n hx hb dJ7_fill_d0a16_13 rfl (lv_at hl 0 rfl) ?_
        refine lv_lload_n hx hb dJ7_fill_d0a16_14 rfl (lv_at hl 3 rfl) ?_
        refine va_last (D := D) (cl := vwCl) hx hb hK hP hD hS k 1 (List.getElem?_set_self hk) ht (vp_in_nI hlt hN) dJ7_fill_d0a16_15 (fun H locs hP hD hS => ?_)
        rw [List.set_set, nI_clamp (by omega), flL_s] at hP hD
        refine lv_iinc (v := nI (i + 1)) (lv' := [(3, .int (nI (i + 1))), (4, .int (nI N)), (0, .ref a), (1, .long v)]) hx hb dJ7_fill_d0a16_16 hl (k := 0) rfl (nI_1 i) (by decide) rfl (fun ls hl => ?_)
        refine lv_goto (tgt := 6) hx hb dJ7_fill_d0a16_19 (by decide) ?_
        exact ih (i + 1) _ _ ls (by omega) (by omega) hP hD hS hl
  refine lv_iconst (v := (0 : Int32)) hx hb dJ7_fill_d0a16_0 (by decide) ?_
  refine lv_istore_n (lv' := [(3, .int (0 : Int32)), (0, .ref a), (1, .long v)]) hx hb dJ7_fill_d0a16_1 rfl hl (by decide) rfl (fun ls hl => ?_)
  refine lv_aload_n hx hb dJ7_fill_d0a16_2 rfl (lv_at hl 1 rfl) ?_
  refine va_alen (D := D) (cl := vwCl) hx hb hK hP k 1 ha ht (v := nI N) rfl dJ7_fill_d0a16_3 ?_
  refine lv_istore (lv' := [(4, .int (nI N)), (3, .int (0 : Int32)), (0, .ref a), (1, .long v)]) hx hb dJ7_fill_d0a16_4 hl (by decide) rfl (fun ls hl => ?_)
  refine key (N + 1) 0 _ _ ls (Nat.zero_le _) (by omega) ?_ ?_ hS (lv_sub hl [1, 0, 2, 3] rfl)
  · rw [flL_0, set_same ha]; exact hP
  · rw [flL_0, set_same ha]; exact hD
