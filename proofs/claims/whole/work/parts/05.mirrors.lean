def mX7_leastOf (x0 : Int32) (x1 : Int32) : Option (Int64) := if x1 = (0 : Int32) then
 some ((0 : Int64)) else
 some ((-((1 : Int64) <<< (((x0 - (1 : Int32))).toInt64 &&& 63))))
def mX7_greatestOf (x0 : Int32) (x1 : Int32) : Option (Int64) := if x1 = (0 : Int32) then
 some ((((1 : Int64) <<< ((x0).toInt64 &&& 63)) - (1 : Int64))) else
 some ((((1 : Int64) <<< (((x0 - (1 : Int32))).toInt64 &&& 63)) - (1 : Int64)))
def mX1_rest (x0 : Int64) (x2 : Int32) : Option (Int64) := some ((x0 &&& (((1 : Int64) <<< ((x2).toInt64 &&& 63)) - (1 : Int64))))
def mX7_made (x0 : Int32) (x1 : Int64) (x3 : Int64) : Option (Int64) := if x0 = (0 : Int32) then
 some (x3) else
 if x0 = (1 : Int32) then
 some (x1) else
 if x0 = (2 : Int32) then
 some ((x1 + x3)) else
 if x0 = (3 : Int32) then
 some ((x1 - x3)) else
 if x0 = (4 : Int32) then
 some ((x1 * x3)) else
 if x0 = (5 : Int32) then
 some ((x1 <<< ((((x3).toInt32)).toInt64 &&& 63))) else
 if x0 = (6 : Int32) then
 some ((if x3 < x1 then x3 else x1)) else
 if x3 ≤ x1 then
 some ((0 : Int64)) else
 some ((1 : Int64))
def mX7_hasTarget (x0 : Int32) : Option (Int32) := if x0 < (0 : Int32) then
 some ((0 : Int32)) else
 if (7 : Int32) < x0 then
 some ((0 : Int32)) else
 some ((1 : Int32))
def mX7_readsA (x0 : Int32) : Option (Int32) := if x0 < (1 : Int32) then
 some ((0 : Int32)) else
 if (7 : Int32) < x0 then
 some ((0 : Int32)) else
 some ((1 : Int32))
def mX7_readsB (x0 : Int32) : Option (Int32) := if x0 = (2 : Int32) then
 some ((1 : Int32)) else
 if x0 = (3 : Int32) then
 some ((1 : Int32)) else
 if x0 = (4 : Int32) then
 some ((1 : Int32)) else
 if x0 = (6 : Int32) then
 some ((1 : Int32)) else
 if x0 = (7 : Int32) then
 some ((1 : Int32)) else
 some ((0 : Int32))
def mX6_isProductTooFar (x0 : Int64) (x2 : Int64) : Option (Int32) := if x0 = (0 : Int64) then
 some ((0 : Int32)) else
 if (if 0 < x0 then x0 else -x0) = (0 : Int64) then none else
 if (if 0 < x2 then x2 else -x2) ≤ ((1099511627776 : Int64) / (if 0 < x0 then x0 else -x0)) then
 some ((0 : Int32)) else
 some ((1 : Int32))
def mX7_isName (x0 : Int32) : Option (Int32) := if x0 < (0 : Int32) then
 some ((0 : Int32)) else
 if (6 : Int32) ≤ x0 then
 some ((0 : Int32)) else
 some ((1 : Int32))
def mX7_isTold (x0 : Int32) : Option (Int32) := if x0 < (-100000 : Int32) then
 some ((0 : Int32)) else
 if (100000 : Int32) < x0 then
 some ((0 : Int32)) else
 some ((1 : Int32))
def mX7_canBeB (x0 : Int32) (x1 : Int32) : Option (Int32) := (mX7_readsB x0).bind (fun u1 =>
 if u1 = (0 : Int32) then
 if x0 = (0 : Int32) then
 (mX7_isTold x1).bind (fun u4 =>
 if ¬ (u4 = 0 ∨ u4 = 1) then none else
 some (u4)) else
 if x0 = (5 : Int32) then
 if x1 < (0 : Int32) then
 some ((0 : Int32)) else
 if (12 : Int32) < x1 then
 some ((0 : Int32)) else
 some ((1 : Int32)) else
 if x0 = (8 : Int32) then
 if x1 < (1 : Int32) then
 some ((0 : Int32)) else
 if (12 : Int32) < x1 then
 some ((0 : Int32)) else
 some ((1 : Int32)) else
 some ((1 : Int32)) else
 (mX7_isName x1).bind (fun u12 =>
 if ¬ (u12 = 0 ∨ u12 = 1) then none else
 some (u12)))
def mX7_canBe (x0 : Int32) (x1 : Int32) (x2 : Int32) (x3 : Int32) : Option (Int32) := if x0 < (0 : Int32) then
 some ((0 : Int32)) else
 if x0 ≤ (9 : Int32) then
 (mX7_hasTarget x0).bind (fun u3 =>
 if u3 = (0 : Int32) then
 (mX7_readsA x0).bind (fun u5 =>
 if u5 = (0 : Int32) then
 (mX7_canBeB x0 x3).bind (fun u7 =>
 if ¬ (u7 = 0 ∨ u7 = 1) then none else
 some (u7)) else
 (mX7_isName x2).bind (fun u9 =>
 if u9 = (0 : Int32) then
 some ((0 : Int32)) else
 (mX7_canBeB x0 x3).bind (fun u11 =>
 if ¬ (u11 = 0 ∨ u11 = 1) then none else
 some (u11)))) else
 (mX7_isName x1).bind (fun u13 =>
 if u13 = (0 : Int32) then
 some ((0 : Int32)) else
 (mX7_readsA x0).bind (fun u15 =>
 if u15 = (0 : Int32) then
 (mX7_canBeB x0 x3).bind (fun u17 =>
 if ¬ (u17 = 0 ∨ u17 = 1) then none else
 some (u17)) else
 (mX7_isName x2).bind (fun u19 =>
 if u19 = (0 : Int32) then
 some ((0 : Int32)) else
 (mX7_canBeB x0 x3).bind (fun u21 =>
 if ¬ (u21 = 0 ∨ u21 = 1) then none else
 some (u21)))))) else
 some ((0 : Int32))
def mX8_in (x0 : Int64) (x2 : Int64) (x4 : Int64) : Option (Int32) := if x0 < x2 then
 some ((0 : Int32)) else
 if x4 < x0 then
 some ((0 : Int32)) else
 some ((1 : Int32))
def mX8_isName (x0 : Int32) : Option (Int32) := (mX8_in ((x0).toInt64) (0 : Int64) (5 : Int64)).bind (fun u1 =>
 if ¬ (u1 = 0 ∨ u1 = 1) then none else
 some (u1))
def mX8_rest (x0 : Int64) (x2 : Int64) : Option (Int64) := if x2 = (0 : Int64) then none else
 if (0 : Int64) ≤ (x0 - x0 / x2 * x2) then
 some ((x0 - x0 / x2 * x2)) else
 some (((x0 - x0 / x2 * x2) + x2))
def mX8_isFar (x0 : Int64) : Option (Int32) := (mX8_in x0 (-1099511627776 : Int64) (1099511627776 : Int64)).bind (fun u1 =>
 if u1 = (0 : Int32) then
 some ((1 : Int32)) else
 some ((0 : Int32)))
def mX8_isFarProduct (x0 : Int64) (x2 : Int64) : Option (Int32) := if (if 0 < x0 then x0 else -x0) = (0 : Int64) then
 some ((0 : Int32)) else
 if (if 0 < x0 then x0 else -x0) = (0 : Int64) then none else
 if (if 0 < x2 then x2 else -x2) ≤ ((1099511627776 : Int64) / (if 0 < x0 then x0 else -x0)) then
 some ((0 : Int32)) else
 some ((1 : Int32))
def mX0_hold (fr : Nat → Int32) (to : Nat → Int32) (x1 : Int32) (x2 : Int32) : Option (Int32) := if x1 < (fr (Int32.toNatClampNeg (0 : Int32))) then
 some ((0 : Int32)) else
 if (to (Int32.toNatClampNeg (0 : Int32))) < x1 then
 some ((0 : Int32)) else
 if x2 < (fr (Int32.toNatClampNeg (1 : Int32))) then
 some ((0 : Int32)) else
 if (to (Int32.toNatClampNeg (1 : Int32))) < x2 then
 some ((0 : Int32)) else
 some ((1 : Int32))
def mX0_runs (fr : Nat → Int32) (to : Nat → Int32) : Option (Int32) := some (((((to (Int32.toNatClampNeg (0 : Int32))) - (fr (Int32.toNatClampNeg (0 : Int32)))) + (1 : Int32)) * (((to (Int32.toNatClampNeg (1 : Int32))) - (fr (Int32.toNatClampNeg (1 : Int32)))) + (1 : Int32))))
def mX1_tell (wd : Nat → Int32) (sg : Nat → Int32) (lw : Nat → Int64) (hg : Nat → Int64) (x1 : Int32) (x2 : Int32) (x3 : Int32) : Option ((Nat → Int32) × (Nat → Int32) × (Nat → Int64) × (Nat → Int64)) := if x1 < 0 ∨ 6 ≤ Int32.toNatClampNeg x1 then none else
 (mX7_leastOf x2 x3).bind (fun u2 =>
 (mX7_greatestOf x2 x3).bind (fun u3 =>
 some ((upd wd (Int32.toNatClampNeg x1) x2), (upd sg (Int32.toNatClampNeg x1) (vp_nar .boolean x3)), (vp_updL lw (Int32.toNatClampNeg x1) u2), (vp_updL hg (Int32.toNatClampNeg x1) u3))))
def mX1_holds (lw : Nat → Int64) (hg : Nat → Int64) (x1 : Int32) (x2 : Int64) : Option (Int32) := if x1 < 0 ∨ 6 ≤ Int32.toNatClampNeg x1 then none else
 if x2 < (lw (Int32.toNatClampNeg x1)) then
 some ((0 : Int32)) else
 if (hg (Int32.toNatClampNeg x1)) < x2 then
 some ((0 : Int32)) else
 some ((1 : Int32))
def mX1_nearestTo (lw : Nat → Int64) (hg : Nat → Int64) (x1 : Int32) (x2 : Int64) : Option (Int64) := if x1 < 0 ∨ 6 ≤ Int32.toNatClampNeg x1 then none else
 some ((if (if x2 < (hg (Int32.toNatClampNeg x1)) then x2 else (hg (Int32.toNatClampNeg x1))) < (lw (Int32.toNatClampNeg x1)) then (lw (Int32.toNatClampNeg x1)) else (if x2 < (hg (Int32.toNatClampNeg x1)) then x2 else (hg (Int32.toNatClampNeg x1)))))
def mX1_wrapped (wd : Nat → Int32) (lw : Nat → Int64) (x1 : Int32) (x2 : Int64) : Option (Int64) := if x1 < 0 ∨ 6 ≤ Int32.toNatClampNeg x1 then none else
 (mX1_rest (x2 - (lw (Int32.toNatClampNeg x1))) (wd (Int32.toNatClampNeg x1))).bind (fun u2 =>
 some (((lw (Int32.toNatClampNeg x1)) + u2)))
def mX1_fitted (nr : Int32) (wd : Nat → Int32) (lw : Nat → Int64) (hg : Nat → Int64) (x1 : Int32) (x2 : Int64) : Option (Int64) := if nr = (0 : Int32) then
 (mX1_wrapped wd lw x1 x2).bind (fun u2 =>
 some (u2)) else
 (mX1_nearestTo lw hg x1 x2).bind (fun u3 =>
 some (u3))
def mX1_signedAlike (sg : Nat → Int32) (x1 : Int32) (x2 : Int32) : Option (Int32) := if x1 < 0 ∨ 6 ≤ Int32.toNatClampNeg x1 then none else
 if x2 < 0 ∨ 6 ≤ Int32.toNatClampNeg x2 then none else
 if (sg (Int32.toNatClampNeg x1)) = (sg (Int32.toNatClampNeg x2)) then
 some ((1 : Int32)) else
 some ((0 : Int32))
def mX1_belowByRests (wd : Nat → Int32) (x1 : Int32) (x2 : Int32) (x3 : Int64) (x5 : Int64) : Option (Int64) := if x1 < 0 ∨ 6 ≤ Int32.toNatClampNeg x1 then none else
 if x2 < 0 ∨ 6 ≤ Int32.toNatClampNeg x2 then none else
 (mX1_rest x3 (if (wd (Int32.toNatClampNeg x1)) < (wd (Int32.toNatClampNeg x2)) then (wd (Int32.toNatClampNeg x2)) else (wd (Int32.toNatClampNeg x1)))).bind (fun u3 =>
 (mX1_rest x5 (if (wd (Int32.toNatClampNeg x1)) < (wd (Int32.toNatClampNeg x2)) then (wd (Int32.toNatClampNeg x2)) else (wd (Int32.toNatClampNeg x1)))).bind (fun u4 =>
 if u4 ≤ u3 then
 some ((0 : Int64)) else
 some ((1 : Int64))))
def mX2_couldGoOver (cb : Int32) (x1 : Int32) : Option (Int32) := if ((cb >>> (x1 &&& 31)) &&& (1 : Int32)) = (1 : Int32) then
 some ((1 : Int32)) else
 some ((0 : Int32))
def mX2_fits (lw : Nat → Int64) (hg : Nat → Int64) (rlo : Int64) (rhi : Int64) (x1 : Int32) : Option (Int32) := (mX1_holds lw hg x1 rlo).bind (fun u1 =>
 if u1 = (0 : Int32) then
 some ((0 : Int32)) else
 (mX1_holds lw hg x1 rhi).bind (fun u3 =>
 if u3 = (0 : Int32) then
 some ((0 : Int32)) else
 some ((1 : Int32))))
def mX2_settle (nr : Int32) (lw : Nat → Int64) (hg : Nat → Int64) (rlo : Int64) (rhi : Int64) (rl : Nat → Int64) (rg : Nat → Int64) (x1 : Int32) : Option ((Nat → Int64) × (Nat → Int64)) := (mX2_fits lw hg rlo rhi x1).bind (fun u1 =>
 if u1 = (0 : Int32) then
 if nr = (0 : Int32) then
 if x1 < 0 ∨ 6 ≤ Int32.toNatClampNeg x1 then none else
 some ((vp_updL rl (Int32.toNatClampNeg x1) (lw (Int32.toNatClampNeg x1))), (vp_updL rg (Int32.toNatClampNeg x1) (hg (Int32.toNatClampNeg x1)))) else
 (mX1_nearestTo lw hg x1 rlo).bind (fun u5 =>
 if x1 < 0 ∨ 6 ≤ Int32.toNatClampNeg x1 then none else
 (mX1_nearestTo lw hg x1 rhi).bind (fun u7 =>
 some ((vp_updL rl (Int32.toNatClampNeg x1) u5), (vp_updL rg (Int32.toNatClampNeg x1) u7)))) else
 if x1 < 0 ∨ 6 ≤ Int32.toNatClampNeg x1 then none else
 some ((vp_updL rl (Int32.toNatClampNeg x1) rlo), (vp_updL rg (Int32.toNatClampNeg x1) rhi)))
def mX4_valueOfA (sa : Nat → Int32) (vf : Nat → Int64) (x1 : Int32) : Option (Int64) := if x1 < 0 ∨ 24 ≤ Int32.toNatClampNeg x1 then none else
 if (sa (Int32.toNatClampNeg x1)) < 0 ∨ 6 ≤ Int32.toNatClampNeg (sa (Int32.toNatClampNeg x1)) then none else
 some ((vf (Int32.toNatClampNeg (sa (Int32.toNatClampNeg x1)))))
def mX4_valueOfB (sb : Nat → Int32) (bn : Nat → Int32) (vf : Nat → Int64) (x1 : Int32) : Option (Int64) := if x1 < 0 ∨ 24 ≤ Int32.toNatClampNeg x1 then none else
 if (bn (Int32.toNatClampNeg x1)) = (0 : Int32) then
 some ((((sb (Int32.toNatClampNeg x1))).toInt64)) else
 if (sb (Int32.toNatClampNeg x1)) < 0 ∨ 6 ≤ Int32.toNatClampNeg (sb (Int32.toNatClampNeg x1)) then none else
 some ((vf (Int32.toNatClampNeg (sb (Int32.toNatClampNeg x1)))))
def mX2_reckon (sg : Nat → Int32) (kd : Nat → Int32) (sa : Nat → Int32) (sb : Nat → Int32) (bn : Nat → Int32) (rlo : Int64) (rhi : Int64) (rl : Nat → Int64) (rg : Nat → Int64) (x1 : Int32) : Option ((Int64) × (Int64)) := (mX4_valueOfA sa rl x1).bind (fun u1 =>
 (mX4_valueOfB sb bn rl x1).bind (fun u2 =>
 (mX4_valueOfA sa rg x1).bind (fun u3 =>
 (mX4_valueOfB sb bn rg x1).bind (fun u4 =>
 if x1 < 0 ∨ 24 ≤ Int32.toNatClampNeg x1 then none else
 if (kd (Int32.toNatClampNeg x1)) = (3 : Int32) then
 some ((u1 - u4), (u3 - u2)) else
 if (kd (Int32.toNatClampNeg x1)) = (4 : Int32) then
 some ((if (if (u3 * u4) < (u3 * u2) then (u3 * u4) else (u3 * u2)) < (if (u1 * u4) < (u1 * u2) then (u1 * u4) else (u1 * u2)) then (if (u3 * u4) < (u3 * u2) then (u3 * u4) else (u3 * u2)) else (if (u1 * u4) < (u1 * u2) then (u1 * u4) else (u1 * u2))), (if (if (u3 * u4) < (u3 * u2) then (u3 * u2) else (u3 * u4)) < (if (u1 * u4) < (u1 * u2) then (u1 * u2) else (u1 * u4)) then (if (u1 * u4) < (u1 * u2) then (u1 * u2) else (u1 * u4)) else (if (u3 * u4) < (u3 * u2) then (u3 * u2) else (u3 * u4)))) else
 if (kd (Int32.toNatClampNeg x1)) = (7 : Int32) then
 (mX1_signedAlike sg (sa (Int32.toNatClampNeg x1)) (sb (Int32.toNatClampNeg x1))).bind (fun u9 =>
 if u9 = (0 : Int32) then
 if u9 = (0 : Int32) then
 some ((0 : Int64), (1 : Int64)) else
 if u1 < u4 then
 some ((0 : Int64), (1 : Int64)) else
 some ((0 : Int64), (0 : Int64)) else
 if u2 ≤ u3 then
 if u9 = (0 : Int32) then
 some ((0 : Int64), (1 : Int64)) else
 if u1 < u4 then
 some ((0 : Int64), (1 : Int64)) else
 some ((0 : Int64), (0 : Int64)) else
 if u9 = (0 : Int32) then
 some ((1 : Int64), (1 : Int64)) else
 if u1 < u4 then
 some ((1 : Int64), (1 : Int64)) else
 some ((1 : Int64), (0 : Int64))) else
 (mX7_made (kd (Int32.toNatClampNeg x1)) u1 u2).bind (fun u18 =>
 (mX7_made (kd (Int32.toNatClampNeg x1)) u3 u4).bind (fun u19 =>
 some (u18, u19)))))))
def mX2_perform (nr : Int32) (sg : Nat → Int32) (lw : Nat → Int64) (hg : Nat → Int64) (kd : Nat → Int32) (tg : Nat → Int32) (sa : Nat → Int32) (sb : Nat → Int32) (bn : Nat → Int32) (cb : Int32) (rlo : Int64) (rhi : Int64) (rl : Nat → Int64) (rg : Nat → Int64) (x1 : Int32) : Option ((Int32) × (Int64) × (Int64) × (Nat → Int64) × (Nat → Int64)) := if x1 < 0 ∨ 24 ≤ Int32.toNatClampNeg x1 then none else
 (mX2_reckon sg kd sa sb bn rlo rhi rl rg x1).bind (fun u2 =>
 (mX2_fits lw hg u2.1 u2.2 (tg (Int32.toNatClampNeg x1))).bind (fun u3 =>
 if u3 = (0 : Int32) then
 (mX2_settle nr lw hg u2.1 u2.2 rl rg (tg (Int32.toNatClampNeg x1))).bind (fun u6 =>
 some ((cb ||| ((1 : Int32) <<< (x1 &&& 31))), u2.1, u2.2, u6.1, u6.2)) else
 (mX2_settle nr lw hg u2.1 u2.2 rl rg (tg (Int32.toNatClampNeg x1))).bind (fun u5 =>
 some (cb, u2.1, u2.2, u5.1, u5.2))))
def mX2_learn_L82 (nr : Int32) (sg : Nat → Int32) (lw : Nat → Int64) (hg : Nat → Int64) (fr : Nat → Int32) (to : Nat → Int32) (pl : Int32) (kd : Nat → Int32) (tg : Nat → Int32) (sa : Nat → Int32) (sb : Nat → Int32) (bn : Nat → Int32) (pa : Nat → Int32)  : Nat → (Int32) → (Int32) → (Int64) → (Int64) → (Nat → Int64) → (Nat → Int64) → (Int32) → Option ((Int32) × (Int32) × (Int64) × (Int64) × (Nat → Int64) × (Nat → Int64))
 | 0, _, _, _, _, _, _, _ => none
 | n + 1, rk, cb, rlo, rhi, rl, rg, x1 => if pl ≤ x1 then
 some (rk, cb, rlo, rhi, rl, rg) else
 if x1 < 0 ∨ 288 ≤ Int32.toNatClampNeg x1 then none else
 (mX2_perform nr sg lw hg kd tg sa sb bn cb rlo rhi rl rg (pa (Int32.toNatClampNeg x1))).bind (fun u9 =>
 mX2_learn_L82 nr sg lw hg fr to pl kd tg sa sb bn pa n rk u9.1 u9.2.1 u9.2.2.1 u9.2.2.2.1 u9.2.2.2.2 (x1 + (1 : Int32)))
def mX2_learn_L36 (nr : Int32) (sg : Nat → Int32) (lw : Nat → Int64) (hg : Nat → Int64) (fr : Nat → Int32) (to : Nat → Int32) (pl : Int32) (kd : Nat → Int32) (tg : Nat → Int32) (sa : Nat → Int32) (sb : Nat → Int32) (bn : Nat → Int32) (pa : Nat → Int32)  : Nat → (Int32) → (Int32) → (Int64) → (Int64) → (Nat → Int64) → (Nat → Int64) → (Int32) → Option ((Int32) × (Int32) × (Int64) × (Int64) × (Nat → Int64) × (Nat → Int64))
 | 0, _, _, _, _, _, _, _ => none
 | n + 1, rk, cb, rlo, rhi, rl, rg, x1 => if (2 : Int32) ≤ x1 then
 mX2_learn_L82 nr sg lw hg fr to pl kd tg sa sb bn pa FU rk cb rlo rhi rl rg (0 : Int32) else
 if x1 < 0 ∨ 2 ≤ Int32.toNatClampNeg x1 then none else
 (mX2_settle nr lw hg (((fr (Int32.toNatClampNeg x1))).toInt64) (((to (Int32.toNatClampNeg x1))).toInt64) rl rg x1).bind (fun u6 =>
 mX2_learn_L36 nr sg lw hg fr to pl kd tg sa sb bn pa n rk cb (((fr (Int32.toNatClampNeg x1))).toInt64) (((to (Int32.toNatClampNeg x1))).toInt64) u6.1 u6.2 (x1 + (1 : Int32)))
def mX2_learn (nr : Int32) (sg : Nat → Int32) (lw : Nat → Int64) (hg : Nat → Int64) (fr : Nat → Int32) (to : Nat → Int32) (pl : Int32) (kd : Nat → Int32) (tg : Nat → Int32) (sa : Nat → Int32) (sb : Nat → Int32) (bn : Nat → Int32) (pa : Nat → Int32) (rk : Int32) (cb : Int32) (rlo : Int64) (rhi : Int64) (rl : Nat → Int64) (rg : Nat → Int64) : Option ((Int32) × (Int32) × (Int64) × (Int64) × (Nat → Int64) × (Nat → Int64)) := if rk = (0 : Int32) then
 mX2_learn_L36 nr sg lw hg fr to pl kd tg sa sb bn pa FU (1 : Int32) (0 : Int32) rlo rhi (flL 6 (0 : Int64) rl) (flL 6 (0 : Int64) rg) (0 : Int32) else
 some (rk, cb, rlo, rhi, rl, rg)
def mX3_answer (wd : Nat → Int32) (sg : Nat → Int32) (kd : Nat → Int32) (sa : Nat → Int32) (sb : Nat → Int32) (bn : Nat → Int32) (tb : Int32) (rv : Nat → Int64) (x1 : Int32) : Option (Int64 × (Int32)) := if x1 < 0 ∨ 24 ≤ Int32.toNatClampNeg x1 then none else
 (mX4_valueOfA sa rv x1).bind (fun u2 =>
 (mX4_valueOfB sb bn rv x1).bind (fun u3 =>
 (mX7_made (kd (Int32.toNatClampNeg x1)) u2 u3).bind (fun u4 =>
 if (kd (Int32.toNatClampNeg x1)) = (7 : Int32) then
 (mX1_signedAlike sg (sa (Int32.toNatClampNeg x1)) (sb (Int32.toNatClampNeg x1))).bind (fun u6 =>
 if u6 = (0 : Int32) then
 (mX1_belowByRests wd (sa (Int32.toNatClampNeg x1)) (sb (Int32.toNatClampNeg x1)) u2 u3).bind (fun u8 =>
 if u8 = u4 then
 some (u8, tb) else
 some (u8, (tb ||| ((1 : Int32) <<< (x1 &&& 31))))) else
 some (u4, tb)) else
 some (u4, tb))))
def mX3_noteOver (ob : Int32) (fo : Int32) (x1 : Int32) : Option ((Int32) × (Int32)) := if ob = (0 : Int32) then
 some ((ob ||| ((1 : Int32) <<< (x1 &&& 31))), x1) else
 some ((ob ||| ((1 : Int32) <<< (x1 &&& 31))), fo)
def mX3_perform (nr : Int32) (wd : Nat → Int32) (sg : Nat → Int32) (lw : Nat → Int64) (hg : Nat → Int64) (kd : Nat → Int32) (tg : Nat → Int32) (sa : Nat → Int32) (sb : Nat → Int32) (bn : Nat → Int32) (ob : Int32) (tb : Int32) (fo : Int32) (rv : Nat → Int64) (x1 : Int32) : Option ((Int32) × (Int32) × (Int32) × (Nat → Int64)) := if x1 < 0 ∨ 24 ≤ Int32.toNatClampNeg x1 then none else
 (mX3_answer wd sg kd sa sb bn tb rv x1).bind (fun u2 =>
 (mX1_holds lw hg (tg (Int32.toNatClampNeg x1)) u2.1).bind (fun u3 =>
 if u3 = (0 : Int32) then
 (mX3_noteOver ob fo x1).bind (fun u7 =>
 (mX1_fitted nr wd lw hg (tg (Int32.toNatClampNeg x1)) u2.1).bind (fun u8 =>
 if (tg (Int32.toNatClampNeg x1)) < 0 ∨ 6 ≤ Int32.toNatClampNeg (tg (Int32.toNatClampNeg x1)) then none else
 some (u7.1, u2.2, u7.2, (vp_updL rv (Int32.toNatClampNeg (tg (Int32.toNatClampNeg x1))) u8)))) else
 (mX1_fitted nr wd lw hg (tg (Int32.toNatClampNeg x1)) u2.1).bind (fun u5 =>
 if (tg (Int32.toNatClampNeg x1)) < 0 ∨ 6 ≤ Int32.toNatClampNeg (tg (Int32.toNatClampNeg x1)) then none else
 some (ob, u2.2, fo, (vp_updL rv (Int32.toNatClampNeg (tg (Int32.toNatClampNeg x1))) u5)))))
def mX3_follow_L57 (nr : Int32) (wd : Nat → Int32) (sg : Nat → Int32) (lw : Nat → Int64) (hg : Nat → Int64) (pl : Int32) (kd : Nat → Int32) (tg : Nat → Int32) (sa : Nat → Int32) (sb : Nat → Int32) (bn : Nat → Int32) (pa : Nat → Int32)  : Nat → (Int32) → (Int32) → (Int32) → (Nat → Int64) → (Int32) → Option ((Int32) × (Int32) × (Int32) × (Nat → Int64))
 | 0, _, _, _, _, _ => none
 | n + 1, ob, tb, fo, rv, x3 => if pl ≤ x3 then
 some (ob, tb, fo, rv) else
 if x3 < 0 ∨ 288 ≤ Int32.toNatClampNeg x3 then none else
 (mX3_perform nr wd sg lw hg kd tg sa sb bn ob tb fo rv (pa (Int32.toNatClampNeg x3))).bind (fun u6 =>
 mX3_follow_L57 nr wd sg lw hg pl kd tg sa sb bn pa n u6.1 u6.2.1 u6.2.2.1 u6.2.2.2 (x3 + (1 : Int32)))
def mX3_follow (nr : Int32) (wd : Nat → Int32) (sg : Nat → Int32) (lw : Nat → Int64) (hg : Nat → Int64) (pl : Int32) (kd : Nat → Int32) (tg : Nat → Int32) (sa : Nat → Int32) (sb : Nat → Int32) (bn : Nat → Int32) (pa : Nat → Int32) (ob : Int32) (tb : Int32) (fo : Int32) (rv : Nat → Int64) (x1 : Int32) (x2 : Int32) : Option ((Int32) × (Int32) × (Int32) × (Nat → Int64)) := (mX1_fitted nr wd lw hg (0 : Int32) ((x1).toInt64)).bind (fun u2 =>
 (mX1_fitted nr wd lw hg (1 : Int32) ((x2).toInt64)).bind (fun u3 =>
 mX3_follow_L57 nr wd sg lw hg pl kd tg sa sb bn pa FU (0 : Int32) (0 : Int32) (-1 : Int32) (vp_updL (vp_updL (flL 6 (0 : Int64) rv) (Int32.toNatClampNeg (0 : Int32)) u2) (Int32.toNatClampNeg (1 : Int32)) u3) (0 : Int32)))
def mX4_endOf_L4 (sn : Int32) (kd : Nat → Int32)  : Nat → (Int32) → Option (Int32)
 | 0, _ => none
 | n + 1, x2 => if sn ≤ x2 then
 some (sn) else
 if x2 < 0 ∨ 24 ≤ Int32.toNatClampNeg x2 then none else
 if (kd (Int32.toNatClampNeg x2)) = (9 : Int32) then
 some (x2) else
 mX4_endOf_L4 sn kd n (x2 + (1 : Int32))
def mX4_endOf (sn : Int32) (kd : Nat → Int32) (x1 : Int32) : Option (Int32) := mX4_endOf_L4 sn kd FU (x1 + (1 : Int32))
def mX4_trace_L2   : Nat → (Int32) → (Nat → Int32) → (Int32) → (Int32) → Option ((Int32) × (Nat → Int32))
 | 0, _, _, _, _ => none
 | n + 1, pl, pa, x2, x3 => if x2 ≤ x3 then
 some (pl, pa) else
 if (288 : Int32) ≤ pl then
 some (pl, pa) else
 if pl < 0 ∨ 288 ≤ Int32.toNatClampNeg pl then none else
 mX4_trace_L2  n (pl + (1 : Int32)) (upd pa (Int32.toNatClampNeg pl) x3) x2 (x3 + (1 : Int32))
def mX4_trace (pl : Int32) (pa : Nat → Int32) (x1 : Int32) (x2 : Int32) : Option ((Int32) × (Nat → Int32)) := mX4_trace_L2 FU pl pa x2 x1
def mX4_retrace_L36 (sn : Int32) (kd : Nat → Int32) (sb : Nat → Int32) (k9 : (Int32) → (Nat → Int32) → (Int32) → (Int32) → Option ((Int32) × (Nat → Int32))) : Nat → (Int32) → (Nat → Int32) → (Int32) → (Int32) → (Int32) → Option ((Int32) × (Nat → Int32))
 | 0, _, _, _, _, _ => none
 | n + 1, pl, pa, x1, x2, x3 => if x2 < 0 ∨ 24 ≤ Int32.toNatClampNeg x2 then none else
 if (sb (Int32.toNatClampNeg x2)) ≤ x3 then
 k9 pl pa x1 (x2 + (1 : Int32)) else
 (mX4_trace pl pa (x2 + (1 : Int32)) x1).bind (fun u9 =>
 mX4_retrace_L36 sn kd sb k9 n u9.1 u9.2 x1 x2 (x3 + (1 : Int32)))
def mX4_retrace_L9 (sn : Int32) (kd : Nat → Int32) (sb : Nat → Int32)  : Nat → (Int32) → (Nat → Int32) → (Int32) → (Int32) → Option ((Int32) × (Nat → Int32))
 | 0, _, _, _, _ => none
 | n + 1, pl, pa, x1, x2 => if sn ≤ x2 then
 some (pl, pa) else
 if x2 < 0 ∨ 24 ≤ Int32.toNatClampNeg x2 then none else
 if (kd (Int32.toNatClampNeg x2)) = (8 : Int32) then
 (mX4_endOf sn kd x2).bind (fun u6 =>
 mX4_retrace_L36 sn kd sb (mX4_retrace_L9 sn kd sb n) FU pl pa u6 x2 (0 : Int32)) else
 if x2 ≤ x1 then
 mX4_retrace_L9 sn kd sb n pl pa x1 (x2 + (1 : Int32)) else
 (mX4_trace pl pa x2 (x2 + (1 : Int32))).bind (fun u5 =>
 mX4_retrace_L9 sn kd sb n u5.1 u5.2 x1 (x2 + (1 : Int32)))
def mX4_retrace (sn : Int32) (pl : Int32) (kd : Nat → Int32) (sb : Nat → Int32) (pa : Nat → Int32) : Option ((Int32) × (Nat → Int32)) := mX4_retrace_L9 sn kd sb FU (0 : Int32) pa (-1 : Int32) (0 : Int32)
def mX4_append_L30   (sn : Int32) (pl : Int32) (kd : Nat → Int32) (tg : Nat → Int32) (sa : Nat → Int32) (sb : Nat → Int32) (bn : Nat → Int32) (pa : Nat → Int32) (x1 : Int32) (x3 : Int32) (x4 : Int32) (t0 : Int32) (t1 : Int32) : Option ((Int32) × (Int32) × (Nat → Int32) × (Nat → Int32) × (Nat → Int32) × (Nat → Int32) × (Nat → Int32) × (Nat → Int32)) := if t1 < 0 ∨ 24 ≤ Int32.toNatClampNeg t1 then none else
 (mX7_readsA x1).bind (fun u5 =>
 if u5 = (0 : Int32) then
 if sn < 0 ∨ 24 ≤ Int32.toNatClampNeg sn then none else
 (mX7_readsB x1).bind (fun u8 =>
 (mX4_retrace (sn + (1 : Int32)) pl kd (upd sb (Int32.toNatClampNeg sn) x4) pa).bind (fun u9 =>
 some ((sn + (1 : Int32)), u9.1, kd, (upd tg (Int32.toNatClampNeg t1) t0), (upd sa (Int32.toNatClampNeg sn) (0 : Int32)), (upd sb (Int32.toNatClampNeg sn) x4), (upd bn (Int32.toNatClampNeg sn) (vp_nar .boolean u8)), u9.2))) else
 if sn < 0 ∨ 24 ≤ Int32.toNatClampNeg sn then none else
 (mX7_readsB x1).bind (fun u11 =>
 (mX4_retrace (sn + (1 : Int32)) pl kd (upd sb (Int32.toNatClampNeg sn) x4) pa).bind (fun u12 =>
 some ((sn + (1 : Int32)), u12.1, kd, (upd tg (Int32.toNatClampNeg t1) t0), (upd sa (Int32.toNatClampNeg sn) x3), (upd sb (Int32.toNatClampNeg sn) x4), (upd bn (Int32.toNatClampNeg sn) (vp_nar .boolean u11)), u12.2))))
def mX4_append (sn : Int32) (pl : Int32) (kd : Nat → Int32) (tg : Nat → Int32) (sa : Nat → Int32) (sb : Nat → Int32) (bn : Nat → Int32) (pa : Nat → Int32) (x1 : Int32) (x2 : Int32) (x3 : Int32) (x4 : Int32) : Option ((Int32) × (Int32) × (Nat → Int32) × (Nat → Int32) × (Nat → Int32) × (Nat → Int32) × (Nat → Int32) × (Nat → Int32)) := if sn < 0 ∨ 24 ≤ Int32.toNatClampNeg sn then none else
 (mX7_hasTarget x1).bind (fun u2 =>
 if u2 = (0 : Int32) then
 mX4_append_L30 sn pl (upd kd (Int32.toNatClampNeg sn) x1) tg sa sb bn pa x1 x3 x4 (0 : Int32) sn else
 mX4_append_L30 sn pl (upd kd (Int32.toNatClampNeg sn) x1) tg sa sb bn pa x1 x3 x4 x2 sn)
def mX4_dropLast (sn : Int32) (pl : Int32) (kd : Nat → Int32) (sb : Nat → Int32) (mt : Nat → Int32) (pa : Nat → Int32) : Option ((Int32) × (Int32) × (Nat → Int32) × (Nat → Int32)) := if (sn - (1 : Int32)) < 0 ∨ 24 ≤ Int32.toNatClampNeg (sn - (1 : Int32)) then none else
 (mX4_retrace (sn - (1 : Int32)) pl kd sb pa).bind (fun u2 =>
 some ((sn - (1 : Int32)), u2.1, (upd mt (Int32.toNatClampNeg (sn - (1 : Int32))) (vp_nar .boolean (0 : Int32))), u2.2))
def mX4_inLoop_L4 (sn : Int32) (kd : Nat → Int32)  : Nat → (Int32) → (Int32) → Option (Int32)
 | 0, _, _ => none
 | n + 1, x1, x2 => if sn ≤ x2 then
 if ¬ (x1 = 0 ∨ x1 = 1) then none else
 some (x1) else
 if x2 < 0 ∨ 24 ≤ Int32.toNatClampNeg x2 then none else
 if (kd (Int32.toNatClampNeg x2)) = (8 : Int32) then
 mX4_inLoop_L4 sn kd n (1 : Int32) (x2 + (1 : Int32)) else
 if (kd (Int32.toNatClampNeg x2)) = (9 : Int32) then
 mX4_inLoop_L4 sn kd n (0 : Int32) (x2 + (1 : Int32)) else
 mX4_inLoop_L4 sn kd n x1 (x2 + (1 : Int32))
def mX4_inLoop (sn : Int32) (kd : Nat → Int32) : Option (Int32) := mX4_inLoop_L4 sn kd FU (0 : Int32) (0 : Int32)
def mX4_marks_L4 (sn : Int32) (mt : Nat → Int32)  : Nat → (Int32) → (Int32) → Option (Int32)
 | 0, _, _ => none
 | n + 1, x1, x2 => if sn ≤ x2 then
 some (x1) else
 if x2 < 0 ∨ 24 ≤ Int32.toNatClampNeg x2 then none else
 if (mt (Int32.toNatClampNeg x2)) = (0 : Int32) then
 mX4_marks_L4 sn mt n x1 (x2 + (1 : Int32)) else
 mX4_marks_L4 sn mt n (x1 + (1 : Int32)) (x2 + (1 : Int32))
def mX4_marks (sn : Int32) (mt : Nat → Int32) : Option (Int32) := mX4_marks_L4 sn mt FU (0 : Int32) (0 : Int32)
def mX5_noteOver_L2   : Nat → (Nat → Int32) → (Nat → Int32) → (Int32) → (Int32) → (Int32) → Option ((Nat → Int32) × (Nat → Int32))
 | 0, _, _, _, _, _ => none
 | n + 1, ov, sh, x1, x2, x3 => if (24 : Int32) ≤ x3 then
 some (ov, sh) else
 if ((x1 >>> (x3 &&& 31)) &&& (1 : Int32)) = (1 : Int32) then
 if x3 < 0 ∨ 24 ≤ Int32.toNatClampNeg x3 then none else
 if (ov (Int32.toNatClampNeg x3)) = (0 : Int32) then
 mX5_noteOver_L2  n (upd ov (Int32.toNatClampNeg x3) ((ov (Int32.toNatClampNeg x3)) + (1 : Int32))) (upd sh (Int32.toNatClampNeg x3) x2) x1 x2 (x3 + (1 : Int32)) else
 mX5_noteOver_L2  n (upd ov (Int32.toNatClampNeg x3) ((ov (Int32.toNatClampNeg x3)) + (1 : Int32))) sh x1 x2 (x3 + (1 : Int32)) else
 mX5_noteOver_L2  n ov sh x1 x2 (x3 + (1 : Int32))
def mX5_noteOver (ov : Nat → Int32) (sh : Nat → Int32) (x1 : Int32) (x2 : Int32) : Option ((Nat → Int32) × (Nat → Int32)) := mX5_noteOver_L2 FU ov sh x1 x2 (0 : Int32)
def mX5_noteTurned_L2   : Nat → (Nat → Int32) → (Int32) → (Int32) → Option ((Nat → Int32))
 | 0, _, _, _ => none
 | n + 1, tu, x1, x2 => if (24 : Int32) ≤ x2 then
 some (tu) else
 if x2 < 0 ∨ 24 ≤ Int32.toNatClampNeg x2 then none else
 mX5_noteTurned_L2  n (upd tu (Int32.toNatClampNeg x2) ((tu (Int32.toNatClampNeg x2)) + ((x1 >>> (x2 &&& 31)) &&& (1 : Int32)))) x1 (x2 + (1 : Int32))
def mX5_noteTurned (tu : Nat → Int32) (x1 : Int32) : Option ((Nat → Int32)) := mX5_noteTurned_L2 FU tu x1 (0 : Int32)
def mX5_note (ob : Int32) (tb : Int32) (ro : Int32) (ov : Nat → Int32) (sh : Nat → Int32) (tu : Nat → Int32) (x1 : Int32) : Option ((Int32) × (Nat → Int32) × (Nat → Int32) × (Nat → Int32)) := if ob = (0 : Int32) then
 if tb = (0 : Int32) then
 some (ro, ov, sh, tu) else
 (mX5_noteTurned tu tb).bind (fun u3 =>
 some (ro, ov, sh, u3)) else
 (mX5_noteOver ov sh ob x1).bind (fun u4 =>
 if tb = (0 : Int32) then
 some ((ro + (1 : Int32)), u4.1, u4.2, tu) else
 (mX5_noteTurned tu tb).bind (fun u6 =>
 some ((ro + (1 : Int32)), u4.1, u4.2, u6)))
def mX5_learn_L75 (nr : Int32) (wd : Nat → Int32) (sg : Nat → Int32) (lw : Nat → Int64) (hg : Nat → Int64) (fr : Nat → Int32) (to : Nat → Int32) (pl : Int32) (kd : Nat → Int32) (tg : Nat → Int32) (sa : Nat → Int32) (sb : Nat → Int32) (bn : Nat → Int32) (pa : Nat → Int32) (k52 : (Int32) → (Int32) → (Int32) → (Nat → Int64) → (Int32) → (Int32) → (Nat → Int32) → (Nat → Int32) → (Nat → Int32) → (Int32) → Option ((Int32) × (Int32) × (Int32) × (Nat → Int64) × (Int32) × (Int32) × (Nat → Int32) × (Nat → Int32) × (Nat → Int32))) : Nat → (Int32) → (Int32) → (Int32) → (Nat → Int64) → (Int32) → (Int32) → (Nat → Int32) → (Nat → Int32) → (Nat → Int32) → (Int32) → (Int32) → Option ((Int32) × (Int32) × (Int32) × (Nat → Int64) × (Int32) × (Int32) × (Nat → Int32) × (Nat → Int32) × (Nat → Int32))
 | 0, _, _, _, _, _, _, _, _, _, _, _ => none
 | n + 1, ob, tb, fo, rv, ro, tk, ov, sh, tu, x1, x2 => if (to (Int32.toNatClampNeg (1 : Int32))) < x2 then
 k52 ob tb fo rv ro tk ov sh tu (x1 + (1 : Int32)) else
 (mX3_follow nr wd sg lw hg pl kd tg sa sb bn pa ob tb fo rv x1 x2).bind (fun u7 =>
 (mX5_note u7.1 u7.2.1 ro ov sh tu ((((32 : Int32) * (x1 - (fr (Int32.toNatClampNeg (0 : Int32))))) + x2) - (fr (Int32.toNatClampNeg (1 : Int32))))).bind (fun u8 =>
 mX5_learn_L75 nr wd sg lw hg fr to pl kd tg sa sb bn pa k52 n u7.1 u7.2.1 u7.2.2.1 u7.2.2.2 u8.1 tk u8.2.1 u8.2.2.1 u8.2.2.2 x1 (x2 + (1 : Int32))))
def mX5_learn_L52 (nr : Int32) (wd : Nat → Int32) (sg : Nat → Int32) (lw : Nat → Int64) (hg : Nat → Int64) (fr : Nat → Int32) (to : Nat → Int32) (pl : Int32) (kd : Nat → Int32) (tg : Nat → Int32) (sa : Nat → Int32) (sb : Nat → Int32) (bn : Nat → Int32) (pa : Nat → Int32)  : Nat → (Int32) → (Int32) → (Int32) → (Nat → Int64) → (Int32) → (Int32) → (Nat → Int32) → (Nat → Int32) → (Nat → Int32) → (Int32) → Option ((Int32) × (Int32) × (Int32) × (Nat → Int64) × (Int32) × (Int32) × (Nat → Int32) × (Nat → Int32) × (Nat → Int32))
 | 0, _, _, _, _, _, _, _, _, _, _ => none
 | n + 1, ob, tb, fo, rv, ro, tk, ov, sh, tu, x1 => if (to (Int32.toNatClampNeg (0 : Int32))) < x1 then
 some (ob, tb, fo, rv, ro, tk, ov, sh, tu) else
 mX5_learn_L75 nr wd sg lw hg fr to pl kd tg sa sb bn pa (mX5_learn_L52 nr wd sg lw hg fr to pl kd tg sa sb bn pa n) FU ob tb fo rv ro tk ov sh tu x1 (fr (Int32.toNatClampNeg (1 : Int32)))
def mX5_learn (nr : Int32) (wd : Nat → Int32) (sg : Nat → Int32) (lw : Nat → Int64) (hg : Nat → Int64) (fr : Nat → Int32) (to : Nat → Int32) (pl : Int32) (kd : Nat → Int32) (tg : Nat → Int32) (sa : Nat → Int32) (sb : Nat → Int32) (bn : Nat → Int32) (pa : Nat → Int32) (ob : Int32) (tb : Int32) (fo : Int32) (rv : Nat → Int64) (ro : Int32) (tk : Int32) (ov : Nat → Int32) (sh : Nat → Int32) (tu : Nat → Int32) : Option ((Int32) × (Int32) × (Int32) × (Nat → Int64) × (Int32) × (Int32) × (Nat → Int32) × (Nat → Int32) × (Nat → Int32)) := if tk = (0 : Int32) then
 mX5_learn_L52 nr wd sg lw hg fr to pl kd tg sa sb bn pa FU ob tb fo rv (0 : Int32) (1 : Int32) (flI 24 (0 : Int32) ov) (flI 24 (-1 : Int32) sh) (flI 24 (0 : Int32) tu) (fr (Int32.toNatClampNeg (0 : Int32))) else
 some (ob, tb, fo, rv, ro, tk, ov, sh, tu)
def mX6_give (tf : Int32) (tl : Nat → Int64) (th : Nat → Int64) (tv : Nat → Int64) (x1 : Int32) (x2 : Int64) : Option ((Int32) × (Nat → Int64) × (Nat → Int64) × (Nat → Int64)) := if x1 < 0 ∨ 6 ≤ Int32.toNatClampNeg x1 then none else
 if (if 0 < x2 then x2 else -x2) ≤ (1099511627776 : Int64) then
 some (tf, (vp_updL tl (Int32.toNatClampNeg x1) (if x2 < (tl (Int32.toNatClampNeg x1)) then x2 else (tl (Int32.toNatClampNeg x1)))), (vp_updL th (Int32.toNatClampNeg x1) (if x2 < (th (Int32.toNatClampNeg x1)) then (th (Int32.toNatClampNeg x1)) else x2)), (vp_updL tv (Int32.toNatClampNeg x1) x2)) else
 some ((1 : Int32), (vp_updL tl (Int32.toNatClampNeg x1) (if x2 < (tl (Int32.toNatClampNeg x1)) then x2 else (tl (Int32.toNatClampNeg x1)))), (vp_updL th (Int32.toNatClampNeg x1) (if x2 < (th (Int32.toNatClampNeg x1)) then (th (Int32.toNatClampNeg x1)) else x2)), (vp_updL tv (Int32.toNatClampNeg x1) x2))
def mX6_perform (kd : Nat → Int32) (tg : Nat → Int32) (sa : Nat → Int32) (sb : Nat → Int32) (bn : Nat → Int32) (tf : Int32) (tl : Nat → Int64) (th : Nat → Int64) (tv : Nat → Int64) (x1 : Int32) : Option ((Int32) × (Nat → Int64) × (Nat → Int64) × (Nat → Int64)) := if x1 < 0 ∨ 24 ≤ Int32.toNatClampNeg x1 then none else
 (mX4_valueOfA sa tv x1).bind (fun u2 =>
 (mX4_valueOfB sb bn tv x1).bind (fun u3 =>
 if (kd (Int32.toNatClampNeg x1)) = (4 : Int32) then
 (mX6_isProductTooFar u2 u3).bind (fun u7 =>
 if u7 = (0 : Int32) then
 (mX7_made (kd (Int32.toNatClampNeg x1)) u2 u3).bind (fun u9 =>
 (mX6_give tf tl th tv (tg (Int32.toNatClampNeg x1)) u9).bind (fun u10 =>
 some (u10.1, u10.2.1, u10.2.2.1, u10.2.2.2))) else
 some ((1 : Int32), tl, th, tv)) else
 (mX7_made (kd (Int32.toNatClampNeg x1)) u2 u3).bind (fun u5 =>
 (mX6_give tf tl th tv (tg (Int32.toNatClampNeg x1)) u5).bind (fun u6 =>
 some (u6.1, u6.2.1, u6.2.2.1, u6.2.2.2)))))
def mX6_follow_L24 (pl : Int32) (kd : Nat → Int32) (tg : Nat → Int32) (sa : Nat → Int32) (sb : Nat → Int32) (bn : Nat → Int32) (pa : Nat → Int32)  : Nat → (Int32) → (Nat → Int64) → (Nat → Int64) → (Nat → Int64) → (Int32) → Option ((Int32) × (Nat → Int64) × (Nat → Int64) × (Nat → Int64))
 | 0, _, _, _, _, _ => none
 | n + 1, tf, tl, th, tv, x3 => if pl ≤ x3 then
 some (tf, tl, th, tv) else
 if tf = (0 : Int32) then
 if x3 < 0 ∨ 288 ≤ Int32.toNatClampNeg x3 then none else
 (mX6_perform kd tg sa sb bn tf tl th tv (pa (Int32.toNatClampNeg x3))).bind (fun u7 =>
 mX6_follow_L24 pl kd tg sa sb bn pa n u7.1 u7.2.1 u7.2.2.1 u7.2.2.2 (x3 + (1 : Int32))) else
 some (tf, tl, th, tv)
def mX6_follow (pl : Int32) (kd : Nat → Int32) (tg : Nat → Int32) (sa : Nat → Int32) (sb : Nat → Int32) (bn : Nat → Int32) (pa : Nat → Int32) (tf : Int32) (tl : Nat → Int64) (th : Nat → Int64) (tv : Nat → Int64) (x1 : Int32) (x2 : Int32) : Option ((Int32) × (Nat → Int64) × (Nat → Int64) × (Nat → Int64)) := (mX6_give tf tl th (flL 6 (0 : Int64) tv) (0 : Int32) ((x1).toInt64)).bind (fun u2 =>
 (mX6_give u2.1 u2.2.1 u2.2.2.1 u2.2.2.2 (1 : Int32) ((x2).toInt64)).bind (fun u3 =>
 mX6_follow_L24 pl kd tg sa sb bn pa FU u3.1 u3.2.1 u3.2.2.1 u3.2.2.2 (0 : Int32)))
def mX6_learn_L74 (fr : Nat → Int32) (to : Nat → Int32) (pl : Int32) (kd : Nat → Int32) (tg : Nat → Int32) (sa : Nat → Int32) (sb : Nat → Int32) (bn : Nat → Int32) (pa : Nat → Int32) (k44 : (Int32) → (Int32) → (Nat → Int64) → (Nat → Int64) → (Nat → Int64) → (Int32) → Option ((Int32) × (Int32) × (Nat → Int64) × (Nat → Int64) × (Nat → Int64))) : Nat → (Int32) → (Int32) → (Nat → Int64) → (Nat → Int64) → (Nat → Int64) → (Int32) → (Int32) → Option ((Int32) × (Int32) × (Nat → Int64) × (Nat → Int64) × (Nat → Int64))
 | 0, _, _, _, _, _, _, _ => none
 | n + 1, tf, kn, tl, th, tv, x1, x2 => if (to (Int32.toNatClampNeg (1 : Int32))) < x2 then
 k44 tf kn tl th tv (x1 + (1 : Int32)) else
 if tf = (0 : Int32) then
 (mX6_follow pl kd tg sa sb bn pa tf tl th tv x1 x2).bind (fun u8 =>
 mX6_learn_L74 fr to pl kd tg sa sb bn pa k44 n u8.1 kn u8.2.1 u8.2.2.1 u8.2.2.2 x1 (x2 + (1 : Int32))) else
 k44 tf kn tl th tv (x1 + (1 : Int32))
def mX6_learn_L44 (fr : Nat → Int32) (to : Nat → Int32) (pl : Int32) (kd : Nat → Int32) (tg : Nat → Int32) (sa : Nat → Int32) (sb : Nat → Int32) (bn : Nat → Int32) (pa : Nat → Int32)  : Nat → (Int32) → (Int32) → (Nat → Int64) → (Nat → Int64) → (Nat → Int64) → (Int32) → Option ((Int32) × (Int32) × (Nat → Int64) × (Nat → Int64) × (Nat → Int64))
 | 0, _, _, _, _, _, _ => none
 | n + 1, tf, kn, tl, th, tv, x1 => if (to (Int32.toNatClampNeg (0 : Int32))) < x1 then
 some (tf, kn, tl, th, tv) else
 if tf = (0 : Int32) then
 mX6_learn_L74 fr to pl kd tg sa sb bn pa (mX6_learn_L44 fr to pl kd tg sa sb bn pa n) FU tf kn tl th tv x1 (fr (Int32.toNatClampNeg (1 : Int32))) else
 some (tf, kn, tl, th, tv)
def mX6_learn (fr : Nat → Int32) (to : Nat → Int32) (pl : Int32) (kd : Nat → Int32) (tg : Nat → Int32) (sa : Nat → Int32) (sb : Nat → Int32) (bn : Nat → Int32) (pa : Nat → Int32) (tf : Int32) (kn : Int32) (tl : Nat → Int64) (th : Nat → Int64) (tv : Nat → Int64) : Option ((Int32) × (Int32) × (Nat → Int64) × (Nat → Int64) × (Nat → Int64)) := if kn = (0 : Int32) then
 mX6_learn_L44 fr to pl kd tg sa sb bn pa FU (0 : Int32) (1 : Int32) (flL 6 (0 : Int64) tl) (flL 6 (0 : Int64) th) tv (fr (Int32.toNatClampNeg (0 : Int32))) else
 some (tf, kn, tl, th, tv)
def mX7_forget (tk : Int32) (rk : Int32) (kn : Int32) : Option ((Int32) × (Int32) × (Int32)) := some ((0 : Int32), (0 : Int32), (0 : Int32))
def mX7_name (wd : Nat → Int32) (sg : Nat → Int32) (lw : Nat → Int64) (hg : Nat → Int64) (tk : Int32) (rk : Int32) (kn : Int32) (x1 : Int32) (x2 : Int32) (x3 : Int32) : Option (Int32 × (Nat → Int32) × (Nat → Int32) × (Nat → Int64) × (Nat → Int64) × (Int32) × (Int32) × (Int32)) := (mX7_isName x1).bind (fun u1 =>
 if u1 = (0 : Int32) then
 some ((0 : Int32), wd, sg, lw, hg, tk, rk, kn) else
 if x2 < (2 : Int32) then
 some ((0 : Int32), wd, sg, lw, hg, tk, rk, kn) else
 if x2 ≤ (31 : Int32) then
 (mX1_tell wd sg lw hg x1 x2 x3).bind (fun u5 =>
 (mX7_forget tk rk kn).bind (fun u6 =>
 some ((1 : Int32), u5.1, u5.2.1, u5.2.2.1, u5.2.2.2, u6.1, u6.2.1, u6.2.2))) else
 some ((0 : Int32), wd, sg, lw, hg, tk, rk, kn))
def mX7_span (fr : Nat → Int32) (to : Nat → Int32) (tk : Int32) (rk : Int32) (kn : Int32) (x1 : Int32) (x2 : Int32) (x3 : Int32) : Option (Int32 × (Nat → Int32) × (Nat → Int32) × (Int32) × (Int32) × (Int32)) := if x1 < (0 : Int32) then
 some ((0 : Int32), fr, to, tk, rk, kn) else
 if (2 : Int32) ≤ x1 then
 some ((0 : Int32), fr, to, tk, rk, kn) else
 (mX7_isTold x2).bind (fun u3 =>
 if u3 = (0 : Int32) then
 some ((0 : Int32), fr, to, tk, rk, kn) else
 (mX7_isTold x3).bind (fun u5 =>
 if u5 = (0 : Int32) then
 some ((0 : Int32), fr, to, tk, rk, kn) else
 if x3 < x2 then
 some ((0 : Int32), fr, to, tk, rk, kn) else
 if (x3 - x2) < (32 : Int32) then
 if x1 < 0 ∨ 2 ≤ Int32.toNatClampNeg x1 then none else
 (mX7_forget tk rk kn).bind (fun u10 =>
 some ((1 : Int32), (upd fr (Int32.toNatClampNeg x1) x2), (upd to (Int32.toNatClampNeg x1) x3), u10.1, u10.2.1, u10.2.2)) else
 some ((0 : Int32), fr, to, tk, rk, kn)))
def mX7_canFollow (sn : Int32) (kd : Nat → Int32) (x1 : Int32) : Option (Int32) := if x1 = (8 : Int32) then
 (mX4_inLoop sn kd).bind (fun u5 =>
 if u5 = (0 : Int32) then
 some ((1 : Int32)) else
 some ((0 : Int32))) else
 if x1 = (9 : Int32) then
 (mX4_inLoop sn kd).bind (fun u3 =>
 if u3 = (0 : Int32) then
 some ((0 : Int32)) else
 some ((1 : Int32))) else
 some ((1 : Int32))
def mX7_step (sn : Int32) (pl : Int32) (kd : Nat → Int32) (tg : Nat → Int32) (sa : Nat → Int32) (sb : Nat → Int32) (bn : Nat → Int32) (pa : Nat → Int32) (tk : Int32) (rk : Int32) (kn : Int32) (x1 : Int32) (x2 : Int32) (x3 : Int32) (x4 : Int32) : Option (Int32 × (Int32) × (Int32) × (Nat → Int32) × (Nat → Int32) × (Nat → Int32) × (Nat → Int32) × (Nat → Int32) × (Nat → Int32) × (Int32) × (Int32) × (Int32)) := if (24 : Int32) ≤ sn then
 some ((-1 : Int32), sn, pl, kd, tg, sa, sb, bn, pa, tk, rk, kn) else
 (mX7_canFollow sn kd x1).bind (fun u2 =>
 if u2 = (0 : Int32) then
 some ((-1 : Int32), sn, pl, kd, tg, sa, sb, bn, pa, tk, rk, kn) else
 (mX7_canBe x1 x2 x3 x4).bind (fun u4 =>
 if u4 = (0 : Int32) then
 some ((-1 : Int32), sn, pl, kd, tg, sa, sb, bn, pa, tk, rk, kn) else
 (mX4_append sn pl kd tg sa sb bn pa x1 x2 x3 x4).bind (fun u6 =>
 (mX7_forget tk rk kn).bind (fun u7 =>
 some ((u6.1 - (1 : Int32)), u6.1, u6.2.1, u6.2.2.1, u6.2.2.2.1, u6.2.2.2.2.1, u6.2.2.2.2.2.1, u6.2.2.2.2.2.2.1, u6.2.2.2.2.2.2.2, u7.1, u7.2.1, u7.2.2)))))
def mX7_back (sn : Int32) (pl : Int32) (kd : Nat → Int32) (sb : Nat → Int32) (mt : Nat → Int32) (pa : Nat → Int32) (tk : Int32) (rk : Int32) (kn : Int32) : Option (Int32 × (Int32) × (Int32) × (Nat → Int32) × (Nat → Int32) × (Int32) × (Int32) × (Int32)) := if sn = (0 : Int32) then
 some ((0 : Int32), sn, pl, mt, pa, tk, rk, kn) else
 (mX4_dropLast sn pl kd sb mt pa).bind (fun u2 =>
 (mX7_forget tk rk kn).bind (fun u3 =>
 some ((1 : Int32), u2.1, u2.2.1, u2.2.2.1, u2.2.2.2, u3.1, u3.2.1, u3.2.2)))
def mX7_mode (nr : Int32) (tk : Int32) (rk : Int32) (kn : Int32) (x1 : Int32) : Option (Int32 × (Int32) × (Int32) × (Int32) × (Int32)) := if x1 = (0 : Int32) then
 if x1 = (1 : Int32) then
 (mX7_forget tk rk kn).bind (fun u4 =>
 some ((1 : Int32), (1 : Int32), u4.1, u4.2.1, u4.2.2)) else
 (mX7_forget tk rk kn).bind (fun u3 =>
 some ((1 : Int32), (0 : Int32), u3.1, u3.2.1, u3.2.2)) else
 if x1 = (1 : Int32) then
 if x1 = (1 : Int32) then
 (mX7_forget tk rk kn).bind (fun u8 =>
 some ((1 : Int32), (1 : Int32), u8.1, u8.2.1, u8.2.2)) else
 (mX7_forget tk rk kn).bind (fun u7 =>
 some ((1 : Int32), (0 : Int32), u7.1, u7.2.1, u7.2.2)) else
 some ((0 : Int32), nr, tk, rk, kn)
def mX7_run (nr : Int32) (wd : Nat → Int32) (sg : Nat → Int32) (lw : Nat → Int64) (hg : Nat → Int64) (fr : Nat → Int32) (to : Nat → Int32) (pl : Int32) (kd : Nat → Int32) (tg : Nat → Int32) (sa : Nat → Int32) (sb : Nat → Int32) (bn : Nat → Int32) (pa : Nat → Int32) (ob : Int32) (tb : Int32) (fo : Int32) (rv : Nat → Int64) (x1 : Int32) (x2 : Int32) (x3 : Int32) : Option (Int32 × (Int32) × (Int32) × (Int32) × (Nat → Int64)) := (mX7_isName x3).bind (fun u1 =>
 if u1 = (0 : Int32) then
 some ((-2147483648 : Int32), ob, tb, fo, rv) else
 (mX0_hold fr to x1 x2).bind (fun u3 =>
 if u3 = (0 : Int32) then
 some ((-2147483648 : Int32), ob, tb, fo, rv) else
 (mX3_follow nr wd sg lw hg pl kd tg sa sb bn pa ob tb fo rv x1 x2).bind (fun u5 =>
 if x3 < 0 ∨ 6 ≤ Int32.toNatClampNeg x3 then none else
 some ((((u5.2.2.2 (Int32.toNatClampNeg x3))).toInt32), u5.1, u5.2.1, u5.2.2.1, u5.2.2.2))))
def mX7_first (nr : Int32) (wd : Nat → Int32) (sg : Nat → Int32) (lw : Nat → Int64) (hg : Nat → Int64) (fr : Nat → Int32) (to : Nat → Int32) (pl : Int32) (kd : Nat → Int32) (tg : Nat → Int32) (sa : Nat → Int32) (sb : Nat → Int32) (bn : Nat → Int32) (pa : Nat → Int32) (ob : Int32) (tb : Int32) (fo : Int32) (rv : Nat → Int64) (x1 : Int32) (x2 : Int32) : Option (Int32 × (Int32) × (Int32) × (Int32) × (Nat → Int64)) := (mX0_hold fr to x1 x2).bind (fun u1 =>
 if u1 = (0 : Int32) then
 some ((-1 : Int32), ob, tb, fo, rv) else
 (mX3_follow nr wd sg lw hg pl kd tg sa sb bn pa ob tb fo rv x1 x2).bind (fun u3 =>
 some (u3.2.2.1, u3.1, u3.2.1, u3.2.2.1, u3.2.2.2)))
def mX7_isStep (sn : Int32) (x1 : Int32) : Option (Int32) := if x1 < (0 : Int32) then
 some ((0 : Int32)) else
 if sn ≤ x1 then
 some ((0 : Int32)) else
 some ((1 : Int32))
def mX7_judged (fr : Nat → Int32) (to : Nat → Int32) (ov : Nat → Int32) (cb : Int32) (x1 : Int32) : Option (Int32) := (mX2_couldGoOver cb x1).bind (fun u1 =>
 if u1 = (0 : Int32) then
 some ((0 : Int32)) else
 if x1 < 0 ∨ 24 ≤ Int32.toNatClampNeg x1 then none else
 if (ov (Int32.toNatClampNeg x1)) = (0 : Int32) then
 some ((1 : Int32)) else
 (mX0_runs fr to).bind (fun u5 =>
 if u5 ≤ (ov (Int32.toNatClampNeg x1)) then
 some ((3 : Int32)) else
 some ((2 : Int32))))
def mX7_judge (nr : Int32) (wd : Nat → Int32) (sg : Nat → Int32) (lw : Nat → Int64) (hg : Nat → Int64) (fr : Nat → Int32) (to : Nat → Int32) (sn : Int32) (pl : Int32) (kd : Nat → Int32) (tg : Nat → Int32) (sa : Nat → Int32) (sb : Nat → Int32) (bn : Nat → Int32) (pa : Nat → Int32) (ob : Int32) (tb : Int32) (fo : Int32) (rv : Nat → Int64) (ro : Int32) (tk : Int32) (ov : Nat → Int32) (sh : Nat → Int32) (tu : Nat → Int32) (rk : Int32) (cb : Int32) (rlo : Int64) (rhi : Int64) (rl : Nat → Int64) (rg : Nat → Int64) (x1 : Int32) : Option (Int32 × (Int32) × (Int32) × (Int32) × (Nat → Int64) × (Int32) × (Int32) × (Nat → Int32) × (Nat → Int32) × (Nat → Int32) × (Int32) × (Int32) × (Int64) × (Int64) × (Nat → Int64) × (Nat → Int64)) := (mX7_isStep sn x1).bind (fun u1 =>
 if u1 = (0 : Int32) then
 some ((-1 : Int32), ob, tb, fo, rv, ro, tk, ov, sh, tu, rk, cb, rlo, rhi, rl, rg) else
 (mX2_learn nr sg lw hg fr to pl kd tg sa sb bn pa rk cb rlo rhi rl rg).bind (fun u3 =>
 (mX5_learn nr wd sg lw hg fr to pl kd tg sa sb bn pa ob tb fo rv ro tk ov sh tu).bind (fun u4 =>
 (mX7_judged fr to u4.2.2.2.2.2.2.1 u3.2.1 x1).bind (fun u5 =>
 some (u5, u4.1, u4.2.1, u4.2.2.1, u4.2.2.2.1, u4.2.2.2.2.1, u4.2.2.2.2.2.1, u4.2.2.2.2.2.2.1, u4.2.2.2.2.2.2.2.1, u4.2.2.2.2.2.2.2.2, u3.1, u3.2.1, u3.2.2.1, u3.2.2.2.1, u3.2.2.2.2.1, u3.2.2.2.2.2)))))
def mX7_over (nr : Int32) (wd : Nat → Int32) (sg : Nat → Int32) (lw : Nat → Int64) (hg : Nat → Int64) (fr : Nat → Int32) (to : Nat → Int32) (sn : Int32) (pl : Int32) (kd : Nat → Int32) (tg : Nat → Int32) (sa : Nat → Int32) (sb : Nat → Int32) (bn : Nat → Int32) (pa : Nat → Int32) (ob : Int32) (tb : Int32) (fo : Int32) (rv : Nat → Int64) (ro : Int32) (tk : Int32) (ov : Nat → Int32) (sh : Nat → Int32) (tu : Nat → Int32) (x1 : Int32) : Option (Int32 × (Int32) × (Int32) × (Int32) × (Nat → Int64) × (Int32) × (Int32) × (Nat → Int32) × (Nat → Int32) × (Nat → Int32)) := (mX7_isStep sn x1).bind (fun u1 =>
 if u1 = (0 : Int32) then
 some ((-1 : Int32), ob, tb, fo, rv, ro, tk, ov, sh, tu) else
 (mX5_learn nr wd sg lw hg fr to pl kd tg sa sb bn pa ob tb fo rv ro tk ov sh tu).bind (fun u3 =>
 if x1 < 0 ∨ 24 ≤ Int32.toNatClampNeg x1 then none else
 some ((u3.2.2.2.2.2.2.1 (Int32.toNatClampNeg x1)), u3.1, u3.2.1, u3.2.2.1, u3.2.2.2.1, u3.2.2.2.2.1, u3.2.2.2.2.2.1, u3.2.2.2.2.2.2.1, u3.2.2.2.2.2.2.2.1, u3.2.2.2.2.2.2.2.2)))
def mX7_shown (nr : Int32) (wd : Nat → Int32) (sg : Nat → Int32) (lw : Nat → Int64) (hg : Nat → Int64) (fr : Nat → Int32) (to : Nat → Int32) (sn : Int32) (pl : Int32) (kd : Nat → Int32) (tg : Nat → Int32) (sa : Nat → Int32) (sb : Nat → Int32) (bn : Nat → Int32) (pa : Nat → Int32) (ob : Int32) (tb : Int32) (fo : Int32) (rv : Nat → Int64) (ro : Int32) (tk : Int32) (ov : Nat → Int32) (sh : Nat → Int32) (tu : Nat → Int32) (x1 : Int32) : Option (Int32 × (Int32) × (Int32) × (Int32) × (Nat → Int64) × (Int32) × (Int32) × (Nat → Int32) × (Nat → Int32) × (Nat → Int32)) := (mX7_isStep sn x1).bind (fun u1 =>
 if u1 = (0 : Int32) then
 some ((-1 : Int32), ob, tb, fo, rv, ro, tk, ov, sh, tu) else
 (mX5_learn nr wd sg lw hg fr to pl kd tg sa sb bn pa ob tb fo rv ro tk ov sh tu).bind (fun u3 =>
 if x1 < 0 ∨ 24 ≤ Int32.toNatClampNeg x1 then none else
 some ((u3.2.2.2.2.2.2.2.1 (Int32.toNatClampNeg x1)), u3.1, u3.2.1, u3.2.2.1, u3.2.2.2.1, u3.2.2.2.2.1, u3.2.2.2.2.2.1, u3.2.2.2.2.2.2.1, u3.2.2.2.2.2.2.2.1, u3.2.2.2.2.2.2.2.2)))
def mX7_turned (nr : Int32) (wd : Nat → Int32) (sg : Nat → Int32) (lw : Nat → Int64) (hg : Nat → Int64) (fr : Nat → Int32) (to : Nat → Int32) (sn : Int32) (pl : Int32) (kd : Nat → Int32) (tg : Nat → Int32) (sa : Nat → Int32) (sb : Nat → Int32) (bn : Nat → Int32) (pa : Nat → Int32) (ob : Int32) (tb : Int32) (fo : Int32) (rv : Nat → Int64) (ro : Int32) (tk : Int32) (ov : Nat → Int32) (sh : Nat → Int32) (tu : Nat → Int32) (x1 : Int32) : Option (Int32 × (Int32) × (Int32) × (Int32) × (Nat → Int64) × (Int32) × (Int32) × (Nat → Int32) × (Nat → Int32) × (Nat → Int32)) := (mX7_isStep sn x1).bind (fun u1 =>
 if u1 = (0 : Int32) then
 some ((-1 : Int32), ob, tb, fo, rv, ro, tk, ov, sh, tu) else
 if x1 < 0 ∨ 24 ≤ Int32.toNatClampNeg x1 then none else
 if (kd (Int32.toNatClampNeg x1)) = (7 : Int32) then
 (mX5_learn nr wd sg lw hg fr to pl kd tg sa sb bn pa ob tb fo rv ro tk ov sh tu).bind (fun u5 =>
 some ((u5.2.2.2.2.2.2.2.2 (Int32.toNatClampNeg x1)), u5.1, u5.2.1, u5.2.2.1, u5.2.2.2.1, u5.2.2.2.2.1, u5.2.2.2.2.2.1, u5.2.2.2.2.2.2.1, u5.2.2.2.2.2.2.2.1, u5.2.2.2.2.2.2.2.2)) else
 some ((-1 : Int32), ob, tb, fo, rv, ro, tk, ov, sh, tu))
def mX7_ends (nr : Int32) (sg : Nat → Int32) (lw : Nat → Int64) (hg : Nat → Int64) (fr : Nat → Int32) (to : Nat → Int32) (pl : Int32) (kd : Nat → Int32) (tg : Nat → Int32) (sa : Nat → Int32) (sb : Nat → Int32) (bn : Nat → Int32) (pa : Nat → Int32) (rk : Int32) (cb : Int32) (rlo : Int64) (rhi : Int64) (rl : Nat → Int64) (rg : Nat → Int64) (x1 : Int32) (x2 : Int32) : Option (Int32 × (Int32) × (Int32) × (Int64) × (Int64) × (Nat → Int64) × (Nat → Int64)) := (mX7_isName x1).bind (fun u1 =>
 if u1 = (0 : Int32) then
 some ((-2147483648 : Int32), rk, cb, rlo, rhi, rl, rg) else
 if x2 = (0 : Int32) then
 (mX2_learn nr sg lw hg fr to pl kd tg sa sb bn pa rk cb rlo rhi rl rg).bind (fun u4 =>
 if x2 = (0 : Int32) then
 if x1 < 0 ∨ 6 ≤ Int32.toNatClampNeg x1 then none else
 some ((((u4.2.2.2.2.1 (Int32.toNatClampNeg x1))).toInt32), u4.1, u4.2.1, u4.2.2.1, u4.2.2.2.1, u4.2.2.2.2.1, u4.2.2.2.2.2) else
 if x1 < 0 ∨ 6 ≤ Int32.toNatClampNeg x1 then none else
 some ((((u4.2.2.2.2.2 (Int32.toNatClampNeg x1))).toInt32), u4.1, u4.2.1, u4.2.2.1, u4.2.2.2.1, u4.2.2.2.2.1, u4.2.2.2.2.2)) else
 if x2 = (1 : Int32) then
 (mX2_learn nr sg lw hg fr to pl kd tg sa sb bn pa rk cb rlo rhi rl rg).bind (fun u9 =>
 if x2 = (0 : Int32) then
 if x1 < 0 ∨ 6 ≤ Int32.toNatClampNeg x1 then none else
 some ((((u9.2.2.2.2.1 (Int32.toNatClampNeg x1))).toInt32), u9.1, u9.2.1, u9.2.2.1, u9.2.2.2.1, u9.2.2.2.2.1, u9.2.2.2.2.2) else
 if x1 < 0 ∨ 6 ≤ Int32.toNatClampNeg x1 then none else
 some ((((u9.2.2.2.2.2 (Int32.toNatClampNeg x1))).toInt32), u9.1, u9.2.1, u9.2.2.1, u9.2.2.2.1, u9.2.2.2.2.1, u9.2.2.2.2.2)) else
 some ((-2147483648 : Int32), rk, cb, rlo, rhi, rl, rg))
def mX7_needed_L24 (sg : Nat → Int32) (tf : Int32) (tl : Nat → Int64) (th : Nat → Int64)  : Nat → (Int32) → (Int32) → (Int32) → Option (Int32)
 | 0, _, _, _ => none
 | n + 1, x1, x2, x3 => if (31 : Int32) < x3 then
 some ((-1 : Int32)) else
 if x1 < 0 ∨ 6 ≤ Int32.toNatClampNeg x1 then none else
 (mX7_leastOf x3 x2).bind (fun u5 =>
 if (tl (Int32.toNatClampNeg x1)) < u5 then
 mX7_needed_L24 sg tf tl th n x1 x2 (x3 + (1 : Int32)) else
 (mX7_greatestOf x3 x2).bind (fun u7 =>
 if u7 < (th (Int32.toNatClampNeg x1)) then
 mX7_needed_L24 sg tf tl th n x1 x2 (x3 + (1 : Int32)) else
 some (x3)))
def mX7_needed (sg : Nat → Int32) (tf : Int32) (tl : Nat → Int64) (th : Nat → Int64) (x1 : Int32) : Option (Int32) := if tf = (0 : Int32) then
 if x1 < 0 ∨ 6 ≤ Int32.toNatClampNeg x1 then none else
 mX7_needed_L24 sg tf tl th FU x1 (sg (Int32.toNatClampNeg x1)) (2 : Int32) else
 some ((-1 : Int32))
def mX7_need (sg : Nat → Int32) (fr : Nat → Int32) (to : Nat → Int32) (pl : Int32) (kd : Nat → Int32) (tg : Nat → Int32) (sa : Nat → Int32) (sb : Nat → Int32) (bn : Nat → Int32) (pa : Nat → Int32) (tf : Int32) (kn : Int32) (tl : Nat → Int64) (th : Nat → Int64) (tv : Nat → Int64) (x1 : Int32) : Option (Int32 × (Int32) × (Int32) × (Nat → Int64) × (Nat → Int64) × (Nat → Int64)) := (mX7_isName x1).bind (fun u1 =>
 if u1 = (0 : Int32) then
 some ((-1 : Int32), tf, kn, tl, th, tv) else
 (mX6_learn fr to pl kd tg sa sb bn pa tf kn tl th tv).bind (fun u3 =>
 (mX7_needed sg u3.1 u3.2.2.1 u3.2.2.2.1 x1).bind (fun u4 =>
 some (u4, u3.1, u3.2.1, u3.2.2.1, u3.2.2.2.1, u3.2.2.2.2))))
def mX7_canMend_L2 (sg : Nat → Int32) (tf : Int32) (tl : Nat → Int64) (th : Nat → Int64)  : Nat → (Int32) → Option (Int32)
 | 0, _ => none
 | n + 1, x1 => if (6 : Int32) ≤ x1 then
 some ((1 : Int32)) else
 (mX7_needed sg tf tl th x1).bind (fun u2 =>
 if u2 = (-1 : Int32) then
 some ((0 : Int32)) else
 mX7_canMend_L2 sg tf tl th n (x1 + (1 : Int32)))
def mX7_canMend (sg : Nat → Int32) (tf : Int32) (tl : Nat → Int64) (th : Nat → Int64) : Option (Int32) := mX7_canMend_L2 sg tf tl th FU (0 : Int32)
def mX7_price_L20 (wd : Nat → Int32) (sg : Nat → Int32) (fr : Nat → Int32) (to : Nat → Int32) (pl : Int32) (kd : Nat → Int32) (tg : Nat → Int32) (sa : Nat → Int32) (sb : Nat → Int32) (bn : Nat → Int32) (pa : Nat → Int32)  : Nat → (Int32) → (Int32) → (Nat → Int64) → (Nat → Int64) → (Nat → Int64) → (Int32) → (Int32) → Option (Int32 × (Int32) × (Int32) × (Nat → Int64) × (Nat → Int64) × (Nat → Int64))
 | 0, _, _, _, _, _, _, _ => none
 | n + 1, tf, kn, tl, th, tv, x1, x2 => if (6 : Int32) ≤ x2 then
 some (x1, tf, kn, tl, th, tv) else
 (mX7_needed sg tf tl th x2).bind (fun u5 =>
 if x2 < 0 ∨ 6 ≤ Int32.toNatClampNeg x2 then none else
 mX7_price_L20 wd sg fr to pl kd tg sa sb bn pa n tf kn tl th tv (x1 + (if (0 : Int32) < (u5 - (wd (Int32.toNatClampNeg x2))) then (u5 - (wd (Int32.toNatClampNeg x2))) else (0 : Int32))) (x2 + (1 : Int32)))
def mX7_price (wd : Nat → Int32) (sg : Nat → Int32) (fr : Nat → Int32) (to : Nat → Int32) (pl : Int32) (kd : Nat → Int32) (tg : Nat → Int32) (sa : Nat → Int32) (sb : Nat → Int32) (bn : Nat → Int32) (pa : Nat → Int32) (tf : Int32) (kn : Int32) (tl : Nat → Int64) (th : Nat → Int64) (tv : Nat → Int64) : Option (Int32 × (Int32) × (Int32) × (Nat → Int64) × (Nat → Int64) × (Nat → Int64)) := (mX6_learn fr to pl kd tg sa sb bn pa tf kn tl th tv).bind (fun u1 =>
 (mX7_canMend sg u1.1 u1.2.2.1 u1.2.2.2.1).bind (fun u2 =>
 if u2 = (0 : Int32) then
 some ((-1 : Int32), u1.1, u1.2.1, u1.2.2.1, u1.2.2.2.1, u1.2.2.2.2) else
 mX7_price_L20 wd sg fr to pl kd tg sa sb bn pa FU u1.1 u1.2.1 u1.2.2.1 u1.2.2.2.1 u1.2.2.2.2 (0 : Int32) (0 : Int32)))
def mX7_mend_L20 (fr : Nat → Int32) (to : Nat → Int32) (pl : Int32) (kd : Nat → Int32) (tg : Nat → Int32) (sa : Nat → Int32) (sb : Nat → Int32) (bn : Nat → Int32) (pa : Nat → Int32)  : Nat → (Nat → Int32) → (Nat → Int32) → (Nat → Int64) → (Nat → Int64) → (Int32) → (Int32) → (Int32) → (Int32) → (Nat → Int64) → (Nat → Int64) → (Nat → Int64) → (Int32) → (Int32) → Option (Int32 × (Nat → Int32) × (Nat → Int32) × (Nat → Int64) × (Nat → Int64) × (Int32) × (Int32) × (Int32) × (Int32) × (Nat → Int64) × (Nat → Int64) × (Nat → Int64))
 | 0, _, _, _, _, _, _, _, _, _, _, _, _, _ => none
 | n + 1, wd, sg, lw, hg, tk, rk, tf, kn, tl, th, tv, x1, x2 => if (6 : Int32) ≤ x2 then
 (mX7_forget tk rk kn).bind (fun u5 =>
 some (x1, wd, sg, lw, hg, u5.1, u5.2.1, tf, u5.2.2, tl, th, tv)) else
 (mX7_needed sg tf tl th x2).bind (fun u6 =>
 if x2 < 0 ∨ 6 ≤ Int32.toNatClampNeg x2 then none else
 if u6 ≤ (wd (Int32.toNatClampNeg x2)) then
 mX7_mend_L20 fr to pl kd tg sa sb bn pa n wd sg lw hg tk rk tf kn tl th tv x1 (x2 + (1 : Int32)) else
 (mX1_tell wd sg lw hg x2 u6 (sg (Int32.toNatClampNeg x2))).bind (fun u9 =>
 mX7_mend_L20 fr to pl kd tg sa sb bn pa n u9.1 u9.2.1 u9.2.2.1 u9.2.2.2 tk rk tf kn tl th tv (x1 + (1 : Int32)) (x2 + (1 : Int32))))
def mX7_mend (wd : Nat → Int32) (sg : Nat → Int32) (lw : Nat → Int64) (hg : Nat → Int64) (fr : Nat → Int32) (to : Nat → Int32) (pl : Int32) (kd : Nat → Int32) (tg : Nat → Int32) (sa : Nat → Int32) (sb : Nat → Int32) (bn : Nat → Int32) (pa : Nat → Int32) (tk : Int32) (rk : Int32) (tf : Int32) (kn : Int32) (tl : Nat → Int64) (th : Nat → Int64) (tv : Nat → Int64) : Option (Int32 × (Nat → Int32) × (Nat → Int32) × (Nat → Int64) × (Nat → Int64) × (Int32) × (Int32) × (Int32) × (Int32) × (Nat → Int64) × (Nat → Int64) × (Nat → Int64)) := (mX6_learn fr to pl kd tg sa sb bn pa tf kn tl th tv).bind (fun u1 =>
 (mX7_canMend sg u1.1 u1.2.2.1 u1.2.2.2.1).bind (fun u2 =>
 if u2 = (0 : Int32) then
 some ((-1 : Int32), wd, sg, lw, hg, tk, rk, u1.1, u1.2.1, u1.2.2.1, u1.2.2.2.1, u1.2.2.2.2) else
 mX7_mend_L20 fr to pl kd tg sa sb bn pa FU wd sg lw hg tk rk u1.1 u1.2.1 u1.2.2.1 u1.2.2.2.1 u1.2.2.2.2 (0 : Int32) (0 : Int32)))
def mX7_mean (sn : Int32) (mt : Nat → Int32) (x1 : Int32) (x2 : Int32) : Option (Int32 × (Nat → Int32)) := (mX7_isStep sn x1).bind (fun u1 =>
 if u1 = (0 : Int32) then
 some ((0 : Int32), mt) else
 if x1 < 0 ∨ 24 ≤ Int32.toNatClampNeg x1 then none else
 if (mt (Int32.toNatClampNeg x1)) = x2 then
 some ((0 : Int32), mt) else
 some ((1 : Int32), (upd mt (Int32.toNatClampNeg x1) (vp_nar .boolean x2))))
def mX7_isListed (fr : Nat → Int32) (to : Nat → Int32) (mt : Nat → Int32) (ov : Nat → Int32) (cb : Int32) (x1 : Int32) : Option (Int32) := if x1 < 0 ∨ 24 ≤ Int32.toNatClampNeg x1 then none else
 if (mt (Int32.toNatClampNeg x1)) = (0 : Int32) then
 (mX7_judged fr to ov cb x1).bind (fun u3 =>
 if u3 < (2 : Int32) then
 some ((0 : Int32)) else
 some ((1 : Int32))) else
 some ((0 : Int32))
def mX7_comesBefore (ov : Nat → Int32) (x1 : Int32) (x2 : Int32) : Option (Int32) := if x1 < 0 ∨ 24 ≤ Int32.toNatClampNeg x1 then none else
 if x2 < 0 ∨ 24 ≤ Int32.toNatClampNeg x2 then none else
 if (ov (Int32.toNatClampNeg x1)) = (ov (Int32.toNatClampNeg x2)) then
 if x2 ≤ x1 then
 some ((0 : Int32)) else
 some ((1 : Int32)) else
 if (ov (Int32.toNatClampNeg x1)) ≤ (ov (Int32.toNatClampNeg x2)) then
 some ((0 : Int32)) else
 some ((1 : Int32))
def mX7_listedBefore_L4 (fr : Nat → Int32) (to : Nat → Int32) (sn : Int32) (mt : Nat → Int32) (ov : Nat → Int32) (cb : Int32)  : Nat → (Int32) → (Int32) → (Int32) → Option (Int32)
 | 0, _, _, _ => none
 | n + 1, x1, x2, x3 => if sn ≤ x3 then
 some (x2) else
 (mX7_isListed fr to mt ov cb x3).bind (fun u2 =>
 if u2 = (0 : Int32) then
 mX7_listedBefore_L4 fr to sn mt ov cb n x1 x2 (x3 + (1 : Int32)) else
 (mX7_comesBefore ov x3 x1).bind (fun u4 =>
 if u4 = (0 : Int32) then
 mX7_listedBefore_L4 fr to sn mt ov cb n x1 x2 (x3 + (1 : Int32)) else
 mX7_listedBefore_L4 fr to sn mt ov cb n x1 (x2 + (1 : Int32)) (x3 + (1 : Int32))))
def mX7_listedBefore (fr : Nat → Int32) (to : Nat → Int32) (sn : Int32) (mt : Nat → Int32) (ov : Nat → Int32) (cb : Int32) (x1 : Int32) : Option (Int32) := mX7_listedBefore_L4 fr to sn mt ov cb FU x1 (0 : Int32) (0 : Int32)
def mX7_listed_L16 (nr : Int32) (wd : Nat → Int32) (sg : Nat → Int32) (lw : Nat → Int64) (hg : Nat → Int64) (fr : Nat → Int32) (to : Nat → Int32) (sn : Int32) (pl : Int32) (kd : Nat → Int32) (tg : Nat → Int32) (sa : Nat → Int32) (sb : Nat → Int32) (bn : Nat → Int32) (mt : Nat → Int32) (pa : Nat → Int32)  : Nat → (Int32) → (Int32) → (Int32) → (Nat → Int64) → (Int32) → (Int32) → (Nat → Int32) → (Nat → Int32) → (Nat → Int32) → (Int32) → (Int32) → (Int64) → (Int64) → (Nat → Int64) → (Nat → Int64) → (Int32) → (Int32) → Option (Int32 × (Int32) × (Int32) × (Int32) × (Nat → Int64) × (Int32) × (Int32) × (Nat → Int32) × (Nat → Int32) × (Nat → Int32) × (Int32) × (Int32) × (Int64) × (Int64) × (Nat → Int64) × (Nat → Int64))
 | 0, _, _, _, _, _, _, _, _, _, _, _, _, _, _, _, _, _ => none
 | n + 1, ob, tb, fo, rv, ro, tk, ov, sh, tu, rk, cb, rlo, rhi, rl, rg, x1, x2 => if sn ≤ x2 then
 some ((-1 : Int32), ob, tb, fo, rv, ro, tk, ov, sh, tu, rk, cb, rlo, rhi, rl, rg) else
 (mX7_isListed fr to mt ov cb x2).bind (fun u4 =>
 if u4 = (0 : Int32) then
 mX7_listed_L16 nr wd sg lw hg fr to sn pl kd tg sa sb bn mt pa n ob tb fo rv ro tk ov sh tu rk cb rlo rhi rl rg x1 (x2 + (1 : Int32)) else
 (mX7_listedBefore fr to sn mt ov cb x2).bind (fun u6 =>
 if u6 = x1 then
 some (x2, ob, tb, fo, rv, ro, tk, ov, sh, tu, rk, cb, rlo, rhi, rl, rg) else
 mX7_listed_L16 nr wd sg lw hg fr to sn pl kd tg sa sb bn mt pa n ob tb fo rv ro tk ov sh tu rk cb rlo rhi rl rg x1 (x2 + (1 : Int32))))
def mX7_listed (nr : Int32) (wd : Nat → Int32) (sg : Nat → Int32) (lw : Nat → Int64) (hg : Nat → Int64) (fr : Nat → Int32) (to : Nat → Int32) (sn : Int32) (pl : Int32) (kd : Nat → Int32) (tg : Nat → Int32) (sa : Nat → Int32) (sb : Nat → Int32) (bn : Nat → Int32) (mt : Nat → Int32) (pa : Nat → Int32) (ob : Int32) (tb : Int32) (fo : Int32) (rv : Nat → Int64) (ro : Int32) (tk : Int32) (ov : Nat → Int32) (sh : Nat → Int32) (tu : Nat → Int32) (rk : Int32) (cb : Int32) (rlo : Int64) (rhi : Int64) (rl : Nat → Int64) (rg : Nat → Int64) (x1 : Int32) : Option (Int32 × (Int32) × (Int32) × (Int32) × (Nat → Int64) × (Int32) × (Int32) × (Nat → Int32) × (Nat → Int32) × (Nat → Int32) × (Int32) × (Int32) × (Int64) × (Int64) × (Nat → Int64) × (Nat → Int64)) := (mX2_learn nr sg lw hg fr to pl kd tg sa sb bn pa rk cb rlo rhi rl rg).bind (fun u1 =>
 (mX5_learn nr wd sg lw hg fr to pl kd tg sa sb bn pa ob tb fo rv ro tk ov sh tu).bind (fun u2 =>
 mX7_listed_L16 nr wd sg lw hg fr to sn pl kd tg sa sb bn mt pa FU u2.1 u2.2.1 u2.2.2.1 u2.2.2.2.1 u2.2.2.2.2.1 u2.2.2.2.2.2.1 u2.2.2.2.2.2.2.1 u2.2.2.2.2.2.2.2.1 u2.2.2.2.2.2.2.2.2 u1.1 u1.2.1 u1.2.2.1 u1.2.2.2.1 u1.2.2.2.2.1 u1.2.2.2.2.2 x1 (0 : Int32)))
def mX7_count_L58 (nr : Int32) (wd : Nat → Int32) (sg : Nat → Int32) (lw : Nat → Int64) (hg : Nat → Int64) (fr : Nat → Int32) (to : Nat → Int32) (sn : Int32) (pl : Int32) (kd : Nat → Int32) (tg : Nat → Int32) (sa : Nat → Int32) (sb : Nat → Int32) (bn : Nat → Int32) (mt : Nat → Int32) (pa : Nat → Int32)  (ob : Int32) (tb : Int32) (fo : Int32) (rv : Nat → Int64) (ro : Int32) (tk : Int32) (ov : Nat → Int32) (sh : Nat → Int32) (tu : Nat → Int32) (x1 : Int32) : Option (Int32 × (Int32) × (Int32) × (Int32) × (Nat → Int64) × (Int32) × (Int32) × (Nat → Int32) × (Nat → Int32) × (Nat → Int32)) := if x1 = (0 : Int32) then
 some (sn, ob, tb, fo, rv, ro, tk, ov, sh, tu) else
 if x1 = (1 : Int32) then
 (mX0_runs fr to).bind (fun u14 =>
 some (u14, ob, tb, fo, rv, ro, tk, ov, sh, tu)) else
 if x1 = (2 : Int32) then
 (mX5_learn nr wd sg lw hg fr to pl kd tg sa sb bn pa ob tb fo rv ro tk ov sh tu).bind (fun u16 =>
 some (u16.2.2.2.2.1, u16.1, u16.2.1, u16.2.2.1, u16.2.2.2.1, u16.2.2.2.2.1, u16.2.2.2.2.2.1, u16.2.2.2.2.2.2.1, u16.2.2.2.2.2.2.2.1, u16.2.2.2.2.2.2.2.2)) else
 if x1 = (3 : Int32) then
 (mX4_marks sn mt).bind (fun u18 =>
 some (u18, ob, tb, fo, rv, ro, tk, ov, sh, tu)) else
 if x1 = (4 : Int32) then
 if nr = (0 : Int32) then
 some ((0 : Int32), ob, tb, fo, rv, ro, tk, ov, sh, tu) else
 some ((1 : Int32), ob, tb, fo, rv, ro, tk, ov, sh, tu) else
 some ((-1 : Int32), ob, tb, fo, rv, ro, tk, ov, sh, tu)
def mX7_count (nr : Int32) (wd : Nat → Int32) (sg : Nat → Int32) (lw : Nat → Int64) (hg : Nat → Int64) (fr : Nat → Int32) (to : Nat → Int32) (sn : Int32) (pl : Int32) (kd : Nat → Int32) (tg : Nat → Int32) (sa : Nat → Int32) (sb : Nat → Int32) (bn : Nat → Int32) (mt : Nat → Int32) (pa : Nat → Int32) (ob : Int32) (tb : Int32) (fo : Int32) (rv : Nat → Int64) (ro : Int32) (tk : Int32) (ov : Nat → Int32) (sh : Nat → Int32) (tu : Nat → Int32) (x1 : Int32) : Option (Int32 × (Int32) × (Int32) × (Int32) × (Nat → Int64) × (Int32) × (Int32) × (Nat → Int32) × (Nat → Int32) × (Nat → Int32)) := if x1 < (10 : Int32) then
 if x1 < (20 : Int32) then
 mX7_count_L58 nr wd sg lw hg fr to sn pl kd tg sa sb bn mt pa ob tb fo rv ro tk ov sh tu x1 else
 if (26 : Int32) ≤ x1 then
 mX7_count_L58 nr wd sg lw hg fr to sn pl kd tg sa sb bn mt pa ob tb fo rv ro tk ov sh tu x1 else
 if (x1 - (20 : Int32)) < 0 ∨ 6 ≤ Int32.toNatClampNeg (x1 - (20 : Int32)) then none else
 if (sg (Int32.toNatClampNeg (x1 - (20 : Int32)))) = (0 : Int32) then
 some ((0 : Int32), ob, tb, fo, rv, ro, tk, ov, sh, tu) else
 some ((1 : Int32), ob, tb, fo, rv, ro, tk, ov, sh, tu) else
 if (16 : Int32) ≤ x1 then
 if x1 < (20 : Int32) then
 mX7_count_L58 nr wd sg lw hg fr to sn pl kd tg sa sb bn mt pa ob tb fo rv ro tk ov sh tu x1 else
 if (26 : Int32) ≤ x1 then
 mX7_count_L58 nr wd sg lw hg fr to sn pl kd tg sa sb bn mt pa ob tb fo rv ro tk ov sh tu x1 else
 if (x1 - (20 : Int32)) < 0 ∨ 6 ≤ Int32.toNatClampNeg (x1 - (20 : Int32)) then none else
 if (sg (Int32.toNatClampNeg (x1 - (20 : Int32)))) = (0 : Int32) then
 some ((0 : Int32), ob, tb, fo, rv, ro, tk, ov, sh, tu) else
 some ((1 : Int32), ob, tb, fo, rv, ro, tk, ov, sh, tu) else
 if (x1 - (10 : Int32)) < 0 ∨ 6 ≤ Int32.toNatClampNeg (x1 - (10 : Int32)) then none else
 some ((wd (Int32.toNatClampNeg (x1 - (10 : Int32)))), ob, tb, fo, rv, ro, tk, ov, sh, tu)
def mX8_isStep (zn : Int32) (x1 : Int32) : Option (Int32) := (mX8_in ((x1).toInt64) (0 : Int64) (((zn - (1 : Int32))).toInt64)).bind (fun u1 =>
 if ¬ (u1 = 0 ∨ u1 = 1) then none else
 some (u1))
def mX8_name (zw : Nat → Int32) (zs : Nat → Int32) (x1 : Int32) (x2 : Int32) (x3 : Int32) : Option (Int32 × (Nat → Int32) × (Nat → Int32)) := (mX8_isName x1).bind (fun u1 =>
 if u1 = (0 : Int32) then
 some ((0 : Int32), zw, zs) else
 (mX8_in ((x2).toInt64) (2 : Int64) (31 : Int64)).bind (fun u3 =>
 if u3 = (0 : Int32) then
 some ((0 : Int32), zw, zs) else
 if x1 < 0 ∨ 6 ≤ Int32.toNatClampNeg x1 then none else
 some ((1 : Int32), (upd zw (Int32.toNatClampNeg x1) x2), (upd zs (Int32.toNatClampNeg x1) (vp_nar .boolean x3)))))
def mX8_span (zfr : Nat → Int32) (zto : Nat → Int32) (x1 : Int32) (x2 : Int32) (x3 : Int32) : Option (Int32 × (Nat → Int32) × (Nat → Int32)) := (mX8_in ((x1).toInt64) (0 : Int64) (1 : Int64)).bind (fun u1 =>
 if u1 = (0 : Int32) then
 some ((0 : Int32), zfr, zto) else
 (mX8_in ((x2).toInt64) (-100000 : Int64) (100000 : Int64)).bind (fun u3 =>
 if u3 = (0 : Int32) then
 some ((0 : Int32), zfr, zto) else
 (mX8_in ((x3).toInt64) ((x2).toInt64) (100000 : Int64)).bind (fun u5 =>
 if u5 = (0 : Int32) then
 some ((0 : Int32), zfr, zto) else
 if (x3 - x2) ≤ (31 : Int32) then
 if x1 < 0 ∨ 2 ≤ Int32.toNatClampNeg x1 then none else
 some ((1 : Int32), (upd zfr (Int32.toNatClampNeg x1) x2), (upd zto (Int32.toNatClampNeg x1) x3)) else
 some ((0 : Int32), zfr, zto))))
def mX8_isOpen_L4 (zn : Int32) (zk : Nat → Int32)  : Nat → (Int32) → (Int32) → Option (Int32)
 | 0, _, _ => none
 | n + 1, x1, x2 => if zn ≤ x2 then
 if ¬ (x1 = 0 ∨ x1 = 1) then none else
 some (x1) else
 if x2 < 0 ∨ 24 ≤ Int32.toNatClampNeg x2 then none else
 if (zk (Int32.toNatClampNeg x2)) = (8 : Int32) then
 mX8_isOpen_L4 zn zk n (1 : Int32) (x2 + (1 : Int32)) else
 if (zk (Int32.toNatClampNeg x2)) = (9 : Int32) then
 mX8_isOpen_L4 zn zk n (0 : Int32) (x2 + (1 : Int32)) else
 if x1 = (0 : Int32) then
 mX8_isOpen_L4 zn zk n (0 : Int32) (x2 + (1 : Int32)) else
 mX8_isOpen_L4 zn zk n (1 : Int32) (x2 + (1 : Int32))
def mX8_isOpen (zn : Int32) (zk : Nat → Int32) : Option (Int32) := mX8_isOpen_L4 zn zk FU (0 : Int32) (0 : Int32)
def mX8_canBe (zn : Int32) (zk : Nat → Int32) (x1 : Int32) (x2 : Int32) (x3 : Int32) (x4 : Int32) : Option (Int32) := if x1 = (0 : Int32) then
 (mX8_isName x2).bind (fun u2 =>
 if u2 = (0 : Int32) then
 some ((0 : Int32)) else
 (mX8_in ((x4).toInt64) (-100000 : Int64) (100000 : Int64)).bind (fun u4 =>
 if u4 = (0 : Int32) then
 some ((0 : Int32)) else
 some ((1 : Int32)))) else
 if x1 = (1 : Int32) then
 (mX8_isName x2).bind (fun u7 =>
 if u7 = (0 : Int32) then
 some ((0 : Int32)) else
 (mX8_isName x3).bind (fun u9 =>
 if u9 = (0 : Int32) then
 some ((0 : Int32)) else
 some ((1 : Int32)))) else
 if x1 = (2 : Int32) ∨ x1 = (3 : Int32) ∨ x1 = (4 : Int32) ∨ x1 = (6 : Int32) ∨ x1 = (7 : Int32) then
 (mX8_isName x2).bind (fun u12 =>
 if u12 = (0 : Int32) then
 some ((0 : Int32)) else
 (mX8_isName x3).bind (fun u14 =>
 if u14 = (0 : Int32) then
 some ((0 : Int32)) else
 (mX8_isName x4).bind (fun u16 =>
 if u16 = (0 : Int32) then
 some ((0 : Int32)) else
 some ((1 : Int32))))) else
 if x1 = (5 : Int32) then
 (mX8_isName x2).bind (fun u19 =>
 if u19 = (0 : Int32) then
 some ((0 : Int32)) else
 (mX8_isName x3).bind (fun u21 =>
 if u21 = (0 : Int32) then
 some ((0 : Int32)) else
 (mX8_in ((x4).toInt64) (0 : Int64) (12 : Int64)).bind (fun u23 =>
 if u23 = (0 : Int32) then
 some ((0 : Int32)) else
 some ((1 : Int32))))) else
 if x1 = (8 : Int32) then
 (mX8_in ((x4).toInt64) (1 : Int64) (12 : Int64)).bind (fun u26 =>
 if u26 = (0 : Int32) then
 some ((0 : Int32)) else
 (mX8_isOpen zn zk).bind (fun u28 =>
 if u28 = (0 : Int32) then
 some ((1 : Int32)) else
 some ((0 : Int32)))) else
 if x1 = (9 : Int32) then
 (mX8_isOpen zn zk).bind (fun u31 =>
 if ¬ (u31 = 0 ∨ u31 = 1) then none else
 some (u31)) else
 some ((0 : Int32))
def mX8_step (zn : Int32) (zk : Nat → Int32) (zt : Nat → Int32) (za : Nat → Int32) (zb : Nat → Int32) (zq : Nat → Int32) (x1 : Int32) (x2 : Int32) (x3 : Int32) (x4 : Int32) : Option (Int32 × (Int32) × (Nat → Int32) × (Nat → Int32) × (Nat → Int32) × (Nat → Int32) × (Nat → Int32)) := (mX8_canBe zn zk x1 x2 x3 x4).bind (fun u1 =>
 if u1 = (0 : Int32) then
 some ((-1 : Int32), zn, zk, zt, za, zb, zq) else
 if zn = (24 : Int32) then
 some ((-1 : Int32), zn, zk, zt, za, zb, zq) else
 if zn < 0 ∨ 24 ≤ Int32.toNatClampNeg zn then none else
 some (((zn + (1 : Int32)) - (1 : Int32)), (zn + (1 : Int32)), (upd zk (Int32.toNatClampNeg zn) x1), (upd zt (Int32.toNatClampNeg zn) x2), (upd za (Int32.toNatClampNeg zn) x3), (upd zb (Int32.toNatClampNeg zn) x4), (upd zq (Int32.toNatClampNeg zn) (vp_nar .boolean (0 : Int32)))))
def mX8_back (zn : Int32) : Option (Int32 × (Int32)) := if zn = (0 : Int32) then
 some ((0 : Int32), zn) else
 some ((1 : Int32), (zn - (1 : Int32)))
def mX8_mode (zm : Int32) (x1 : Int32) : Option (Int32 × (Int32)) := (mX8_in ((x1).toInt64) (0 : Int64) (1 : Int64)).bind (fun u1 =>
 if u1 = (0 : Int32) then
 some ((0 : Int32), zm) else
 some ((1 : Int32), x1))
def mX8_lays_L106 (zn : Int32) (zk : Nat → Int32) (zb : Nat → Int32) (k7 : (Int32) → (Nat → Int32) → (Int32) → Option ((Int32) × (Nat → Int32))) (k91 : (Int32) → (Nat → Int32) → (Int32) → (Int32) → (Int32) → Option ((Int32) × (Nat → Int32))) : Nat → (Int32) → (Nat → Int32) → (Int32) → (Int32) → (Int32) → (Int32) → Option ((Int32) × (Nat → Int32))
 | 0, _, _, _, _, _, _ => none
 | n + 1, zj, zl, x1, x2, x3, x4 => if x2 ≤ x4 then
 k91 zj zl x1 x2 (x3 + (1 : Int32)) else
 if zj < 0 ∨ 288 ≤ Int32.toNatClampNeg zj then none else
 mX8_lays_L106 zn zk zb k7 k91 n (zj + (1 : Int32)) (upd zl (Int32.toNatClampNeg zj) x4) x1 x2 x3 (x4 + (1 : Int32))
def mX8_lays_L91 (zn : Int32) (zk : Nat → Int32) (zb : Nat → Int32) (k7 : (Int32) → (Nat → Int32) → (Int32) → Option ((Int32) × (Nat → Int32))) : Nat → (Int32) → (Nat → Int32) → (Int32) → (Int32) → (Int32) → Option ((Int32) × (Nat → Int32))
 | 0, _, _, _, _, _ => none
 | n + 1, zj, zl, x1, x2, x3 => if x1 < 0 ∨ 24 ≤ Int32.toNatClampNeg x1 then none else
 if (zb (Int32.toNatClampNeg x1)) ≤ x3 then
 k7 zj zl x2 else
 mX8_lays_L106 zn zk zb k7 (mX8_lays_L91 zn zk zb k7 n) FU zj zl x1 x2 x3 (x1 + (1 : Int32))
def mX8_lays_L64 (zn : Int32) (zk : Nat → Int32) (zb : Nat → Int32) (k7 : (Int32) → (Nat → Int32) → (Int32) → Option ((Int32) × (Nat → Int32))) : Nat → (Int32) → (Nat → Int32) → (Int32) → (Int32) → Option ((Int32) × (Nat → Int32))
 | 0, _, _, _, _ => none
 | n + 1, zj, zl, x1, x2 => if zn ≤ x2 then
 mX8_lays_L91 zn zk zb k7 FU zj zl x1 x2 (0 : Int32) else
 if x2 < 0 ∨ 24 ≤ Int32.toNatClampNeg x2 then none else
 if (zk (Int32.toNatClampNeg x2)) = (9 : Int32) then
 mX8_lays_L91 zn zk zb k7 FU zj zl x1 x2 (0 : Int32) else
 mX8_lays_L64 zn zk zb k7 n zj zl x1 (x2 + (1 : Int32))
def mX8_lays_L7 (zn : Int32) (zk : Nat → Int32) (zb : Nat → Int32)  : Nat → (Int32) → (Nat → Int32) → (Int32) → Option ((Int32) × (Nat → Int32))
 | 0, _, _, _ => none
 | n + 1, zj, zl, x1 => if zn ≤ x1 then
 some (zj, zl) else
 if x1 < 0 ∨ 24 ≤ Int32.toNatClampNeg x1 then none else
 if (zk (Int32.toNatClampNeg x1)) = (8 : Int32) then
 mX8_lays_L64 zn zk zb (mX8_lays_L7 zn zk zb n) FU zj zl x1 (x1 + (1 : Int32)) else
 if (zk (Int32.toNatClampNeg x1)) = (9 : Int32) then
 mX8_lays_L7 zn zk zb n zj zl (x1 + (1 : Int32)) else
 if zj < 0 ∨ 288 ≤ Int32.toNatClampNeg zj then none else
 mX8_lays_L7 zn zk zb n (zj + (1 : Int32)) (upd zl (Int32.toNatClampNeg zj) x1) (x1 + (1 : Int32))
def mX8_lays (zn : Int32) (zj : Int32) (zk : Nat → Int32) (zb : Nat → Int32) (zl : Nat → Int32) : Option ((Int32) × (Nat → Int32)) := mX8_lays_L7 zn zk zb FU (0 : Int32) zl (0 : Int32)
def mX8_low (zw : Nat → Int32) (zs : Nat → Int32) (x1 : Int32) : Option (Int64) := if x1 < 0 ∨ 6 ≤ Int32.toNatClampNeg x1 then none else
 if (zs (Int32.toNatClampNeg x1)) = (0 : Int32) then
 some ((0 : Int64)) else
 some ((-((1 : Int64) <<< ((((zw (Int32.toNatClampNeg x1)) - (1 : Int32))).toInt64 &&& 63))))
def mX8_high (zw : Nat → Int32) (zs : Nat → Int32) (x1 : Int32) : Option (Int64) := if x1 < 0 ∨ 6 ≤ Int32.toNatClampNeg x1 then none else
 if (zs (Int32.toNatClampNeg x1)) = (0 : Int32) then
 some ((((1 : Int64) <<< (((zw (Int32.toNatClampNeg x1))).toInt64 &&& 63)) - (1 : Int64))) else
 some ((((1 : Int64) <<< ((((zw (Int32.toNatClampNeg x1)) - (1 : Int32))).toInt64 &&& 63)) - (1 : Int64)))
def mX8_put (zm : Int32) (zw : Nat → Int32) (zs : Nat → Int32) (x1 : Int32) (x2 : Int64) : Option (Int64) := (mX8_low zw zs x1).bind (fun u1 =>
 (mX8_high zw zs x1).bind (fun u2 =>
 (mX8_in x2 u1 u2).bind (fun u3 =>
 if u3 = (0 : Int32) then
 if zm = (1 : Int32) then
 (mX8_low zw zs x1).bind (fun u10 =>
 if u10 ≤ x2 then
 (mX8_high zw zs x1).bind (fun u12 =>
 some (u12)) else
 (mX8_low zw zs x1).bind (fun u13 =>
 some (u13))) else
 (mX8_low zw zs x1).bind (fun u6 =>
 (mX8_low zw zs x1).bind (fun u7 =>
 if x1 < 0 ∨ 6 ≤ Int32.toNatClampNeg x1 then none else
 (mX8_rest (x2 - u7) ((1 : Int64) <<< (((zw (Int32.toNatClampNeg x1))).toInt64 &&& 63))).bind (fun u9 =>
 some ((u6 + u9))))) else
 some (x2))))
def mX8_goesOver (zw : Nat → Int32) (zs : Nat → Int32) (x1 : Int32) (x2 : Int64) : Option (Int32) := (mX8_low zw zs x1).bind (fun u1 =>
 (mX8_high zw zs x1).bind (fun u2 =>
 (mX8_in x2 u1 u2).bind (fun u3 =>
 if u3 = (0 : Int32) then
 some ((1 : Int32)) else
 some ((0 : Int32)))))
def mX8_belowOf (zw : Nat → Int32) (zs : Nat → Int32) (za : Nat → Int32) (zb : Nat → Int32) (zv : Nat → Int64) (x1 : Int32) : Option (Int32) := if x1 < 0 ∨ 24 ≤ Int32.toNatClampNeg x1 then none else
 if (za (Int32.toNatClampNeg x1)) < 0 ∨ 6 ≤ Int32.toNatClampNeg (za (Int32.toNatClampNeg x1)) then none else
 if (zb (Int32.toNatClampNeg x1)) < 0 ∨ 6 ≤ Int32.toNatClampNeg (zb (Int32.toNatClampNeg x1)) then none else
 if (zs (Int32.toNatClampNeg (za (Int32.toNatClampNeg x1)))) = (zs (Int32.toNatClampNeg (zb (Int32.toNatClampNeg x1)))) then
 if (zv (Int32.toNatClampNeg (zb (Int32.toNatClampNeg x1)))) ≤ (zv (Int32.toNatClampNeg (za (Int32.toNatClampNeg x1)))) then
 some ((0 : Int32)) else
 some ((1 : Int32)) else
 (mX8_rest (zv (Int32.toNatClampNeg (za (Int32.toNatClampNeg x1)))) ((1 : Int64) <<< (((if (zw (Int32.toNatClampNeg (za (Int32.toNatClampNeg x1)))) < (zw (Int32.toNatClampNeg (zb (Int32.toNatClampNeg x1)))) then (zw (Int32.toNatClampNeg (zb (Int32.toNatClampNeg x1)))) else (zw (Int32.toNatClampNeg (za (Int32.toNatClampNeg x1)))))).toInt64 &&& 63))).bind (fun u5 =>
 (mX8_rest (zv (Int32.toNatClampNeg (zb (Int32.toNatClampNeg x1)))) ((1 : Int64) <<< (((if (zw (Int32.toNatClampNeg (za (Int32.toNatClampNeg x1)))) < (zw (Int32.toNatClampNeg (zb (Int32.toNatClampNeg x1)))) then (zw (Int32.toNatClampNeg (zb (Int32.toNatClampNeg x1)))) else (zw (Int32.toNatClampNeg (za (Int32.toNatClampNeg x1)))))).toInt64 &&& 63))).bind (fun u6 =>
 if u6 ≤ u5 then
 some ((0 : Int32)) else
 some ((1 : Int32))))
def mX8_valueOf (zw : Nat → Int32) (zs : Nat → Int32) (zk : Nat → Int32) (za : Nat → Int32) (zb : Nat → Int32) (zv : Nat → Int64) (x1 : Int32) : Option (Int64) := if x1 < 0 ∨ 24 ≤ Int32.toNatClampNeg x1 then none else
 if (zk (Int32.toNatClampNeg x1)) = (0 : Int32) then
 some ((((zb (Int32.toNatClampNeg x1))).toInt64)) else
 if (zk (Int32.toNatClampNeg x1)) = (1 : Int32) then
 if (za (Int32.toNatClampNeg x1)) < 0 ∨ 6 ≤ Int32.toNatClampNeg (za (Int32.toNatClampNeg x1)) then none else
 some ((zv (Int32.toNatClampNeg (za (Int32.toNatClampNeg x1))))) else
 if (zk (Int32.toNatClampNeg x1)) = (2 : Int32) then
 if (za (Int32.toNatClampNeg x1)) < 0 ∨ 6 ≤ Int32.toNatClampNeg (za (Int32.toNatClampNeg x1)) then none else
 if (zb (Int32.toNatClampNeg x1)) < 0 ∨ 6 ≤ Int32.toNatClampNeg (zb (Int32.toNatClampNeg x1)) then none else
 some (((zv (Int32.toNatClampNeg (za (Int32.toNatClampNeg x1)))) + (zv (Int32.toNatClampNeg (zb (Int32.toNatClampNeg x1)))))) else
 if (zk (Int32.toNatClampNeg x1)) = (3 : Int32) then
 if (za (Int32.toNatClampNeg x1)) < 0 ∨ 6 ≤ Int32.toNatClampNeg (za (Int32.toNatClampNeg x1)) then none else
 if (zb (Int32.toNatClampNeg x1)) < 0 ∨ 6 ≤ Int32.toNatClampNeg (zb (Int32.toNatClampNeg x1)) then none else
 some (((zv (Int32.toNatClampNeg (za (Int32.toNatClampNeg x1)))) - (zv (Int32.toNatClampNeg (zb (Int32.toNatClampNeg x1)))))) else
 if (zk (Int32.toNatClampNeg x1)) = (4 : Int32) then
 if (za (Int32.toNatClampNeg x1)) < 0 ∨ 6 ≤ Int32.toNatClampNeg (za (Int32.toNatClampNeg x1)) then none else
 if (zb (Int32.toNatClampNeg x1)) < 0 ∨ 6 ≤ Int32.toNatClampNeg (zb (Int32.toNatClampNeg x1)) then none else
 some (((zv (Int32.toNatClampNeg (za (Int32.toNatClampNeg x1)))) * (zv (Int32.toNatClampNeg (zb (Int32.toNatClampNeg x1)))))) else
 if (zk (Int32.toNatClampNeg x1)) = (5 : Int32) then
 if (za (Int32.toNatClampNeg x1)) < 0 ∨ 6 ≤ Int32.toNatClampNeg (za (Int32.toNatClampNeg x1)) then none else
 some (((zv (Int32.toNatClampNeg (za (Int32.toNatClampNeg x1)))) * ((1 : Int64) <<< (((zb (Int32.toNatClampNeg x1))).toInt64 &&& 63)))) else
 if (zk (Int32.toNatClampNeg x1)) = (6 : Int32) then
 if (za (Int32.toNatClampNeg x1)) < 0 ∨ 6 ≤ Int32.toNatClampNeg (za (Int32.toNatClampNeg x1)) then none else
 if (zb (Int32.toNatClampNeg x1)) < 0 ∨ 6 ≤ Int32.toNatClampNeg (zb (Int32.toNatClampNeg x1)) then none else
 some ((if (zv (Int32.toNatClampNeg (zb (Int32.toNatClampNeg x1)))) < (zv (Int32.toNatClampNeg (za (Int32.toNatClampNeg x1)))) then (zv (Int32.toNatClampNeg (zb (Int32.toNatClampNeg x1)))) else (zv (Int32.toNatClampNeg (za (Int32.toNatClampNeg x1)))))) else
 (mX8_belowOf zw zs za zb zv x1).bind (fun u19 =>
 if u19 = (0 : Int32) then
 some ((0 : Int64)) else
 some ((1 : Int64)))
def mX8_runs_L214 (zn : Int32) (zm : Int32) (zj : Int32) (zw : Nat → Int32) (zs : Nat → Int32) (zk : Nat → Int32) (zt : Nat → Int32) (za : Nat → Int32) (zb : Nat → Int32) (zl : Nat → Int32) (k84 : (Int32) → (Nat → Int64) → (Nat → Int32) → (Nat → Int32) → (Int32) → Option ((Int32) × (Nat → Int64) × (Nat → Int32) × (Nat → Int32))) (zf : Int32) (zv : Nat → Int64) (zo : Nat → Int32) (zu : Nat → Int32) (x3 : Int32) (x4 : Int32) (x5 : Int64) : Option ((Int32) × (Nat → Int64) × (Nat → Int32) × (Nat → Int32)) := if x4 < 0 ∨ 24 ≤ Int32.toNatClampNeg x4 then none else
 (mX8_put zm zw zs (zt (Int32.toNatClampNeg x4)) x5).bind (fun u24 =>
 if (zt (Int32.toNatClampNeg x4)) < 0 ∨ 6 ≤ Int32.toNatClampNeg (zt (Int32.toNatClampNeg x4)) then none else
 k84 zf (vp_updL zv (Int32.toNatClampNeg (zt (Int32.toNatClampNeg x4))) u24) zo zu (x3 + (1 : Int32)))
def mX8_runs_L176 (zn : Int32) (zm : Int32) (zj : Int32) (zw : Nat → Int32) (zs : Nat → Int32) (zk : Nat → Int32) (zt : Nat → Int32) (za : Nat → Int32) (zb : Nat → Int32) (zl : Nat → Int32) (k84 : (Int32) → (Nat → Int64) → (Nat → Int32) → (Nat → Int32) → (Int32) → Option ((Int32) × (Nat → Int64) × (Nat → Int32) × (Nat → Int32))) (zf : Int32) (zv : Nat → Int64) (zo : Nat → Int32) (zu : Nat → Int32) (x3 : Int32) (x4 : Int32) (x5 : Int64) : Option ((Int32) × (Nat → Int64) × (Nat → Int32) × (Nat → Int32)) := if x4 < 0 ∨ 24 ≤ Int32.toNatClampNeg x4 then none else
 (mX8_goesOver zw zs (zt (Int32.toNatClampNeg x4)) x5).bind (fun u20 =>
 if u20 = (0 : Int32) then
 mX8_runs_L214 zn zm zj zw zs zk zt za zb zl k84 zf zv zo zu x3 x4 x5 else
 if zf = (-1 : Int32) then
 mX8_runs_L214 zn zm zj zw zs zk zt za zb zl k84 x4 zv (upd zo (Int32.toNatClampNeg x4) (vp_nar .boolean (1 : Int32))) zu x3 x4 x5 else
 mX8_runs_L214 zn zm zj zw zs zk zt za zb zl k84 zf zv (upd zo (Int32.toNatClampNeg x4) (vp_nar .boolean (1 : Int32))) zu x3 x4 x5)
def mX8_runs_L132 (zn : Int32) (zm : Int32) (zj : Int32) (zw : Nat → Int32) (zs : Nat → Int32) (zk : Nat → Int32) (zt : Nat → Int32) (za : Nat → Int32) (zb : Nat → Int32) (zl : Nat → Int32) (k84 : (Int32) → (Nat → Int64) → (Nat → Int32) → (Nat → Int32) → (Int32) → Option ((Int32) × (Nat → Int64) × (Nat → Int32) × (Nat → Int32))) (zf : Int32) (zv : Nat → Int64) (zo : Nat → Int32) (zu : Nat → Int32) (x3 : Int32) (x4 : Int32) (x5 : Int64) (t0 : Int32) : Option ((Int32) × (Nat → Int64) × (Nat → Int32) × (Nat → Int32)) := if x4 < 0 ∨ 24 ≤ Int32.toNatClampNeg x4 then none else
 if (za (Int32.toNatClampNeg x4)) < 0 ∨ 6 ≤ Int32.toNatClampNeg (za (Int32.toNatClampNeg x4)) then none else
 if (zb (Int32.toNatClampNeg x4)) < 0 ∨ 6 ≤ Int32.toNatClampNeg (zb (Int32.toNatClampNeg x4)) then none else
 if (zv (Int32.toNatClampNeg (zb (Int32.toNatClampNeg x4)))) ≤ (zv (Int32.toNatClampNeg (za (Int32.toNatClampNeg x4)))) then
 if t0 = (0 : Int32) then
 mX8_runs_L176 zn zm zj zw zs zk zt za zb zl k84 zf zv zo zu x3 x4 x5 else
 mX8_runs_L176 zn zm zj zw zs zk zt za zb zl k84 zf zv zo (upd zu (Int32.toNatClampNeg x4) (vp_nar .boolean (1 : Int32))) x3 x4 x5 else
 if t0 = (1 : Int32) then
 mX8_runs_L176 zn zm zj zw zs zk zt za zb zl k84 zf zv zo zu x3 x4 x5 else
 mX8_runs_L176 zn zm zj zw zs zk zt za zb zl k84 zf zv zo (upd zu (Int32.toNatClampNeg x4) (vp_nar .boolean (1 : Int32))) x3 x4 x5
def mX8_runs_L84 (zn : Int32) (zm : Int32) (zj : Int32) (zw : Nat → Int32) (zs : Nat → Int32) (zk : Nat → Int32) (zt : Nat → Int32) (za : Nat → Int32) (zb : Nat → Int32) (zl : Nat → Int32)  : Nat → (Int32) → (Nat → Int64) → (Nat → Int32) → (Nat → Int32) → (Int32) → Option ((Int32) × (Nat → Int64) × (Nat → Int32) × (Nat → Int32))
 | 0, _, _, _, _, _ => none
 | n + 1, zf, zv, zo, zu, x3 => if zj ≤ x3 then
 some (zf, zv, zo, zu) else
 if x3 < 0 ∨ 288 ≤ Int32.toNatClampNeg x3 then none else
 (mX8_valueOf zw zs zk za zb zv (zl (Int32.toNatClampNeg x3))).bind (fun u9 =>
 if (zl (Int32.toNatClampNeg x3)) < 0 ∨ 24 ≤ Int32.toNatClampNeg (zl (Int32.toNatClampNeg x3)) then none else
 if (zk (Int32.toNatClampNeg (zl (Int32.toNatClampNeg x3)))) = (7 : Int32) then
 if u9 = (1 : Int64) then
 mX8_runs_L132 zn zm zj zw zs zk zt za zb zl (mX8_runs_L84 zn zm zj zw zs zk zt za zb zl n) zf zv zo zu x3 (zl (Int32.toNatClampNeg x3)) u9 (1 : Int32) else
 mX8_runs_L132 zn zm zj zw zs zk zt za zb zl (mX8_runs_L84 zn zm zj zw zs zk zt za zb zl n) zf zv zo zu x3 (zl (Int32.toNatClampNeg x3)) u9 (0 : Int32) else
 mX8_runs_L176 zn zm zj zw zs zk zt za zb zl (mX8_runs_L84 zn zm zj zw zs zk zt za zb zl n) zf zv zo zu x3 (zl (Int32.toNatClampNeg x3)) u9)
def mX8_runs_L23 (zn : Int32) (zm : Int32) (zj : Int32) (zw : Nat → Int32) (zs : Nat → Int32) (zk : Nat → Int32) (zt : Nat → Int32) (za : Nat → Int32) (zb : Nat → Int32) (zl : Nat → Int32)  : Nat → (Int32) → (Nat → Int64) → (Nat → Int32) → (Nat → Int32) → (Int32) → (Int32) → (Int32) → Option ((Int32) × (Nat → Int64) × (Nat → Int32) × (Nat → Int32))
 | 0, _, _, _, _, _, _, _ => none
 | n + 1, zf, zv, zo, zu, x1, x2, x3 => if zn ≤ x3 then
 (mX8_put zm zw zs (0 : Int32) ((x1).toInt64)).bind (fun u4 =>
 (mX8_put zm zw zs (1 : Int32) ((x2).toInt64)).bind (fun u5 =>
 mX8_runs_L84 zn zm zj zw zs zk zt za zb zl FU (-1 : Int32) (vp_updL (vp_updL zv (Int32.toNatClampNeg (0 : Int32)) u4) (Int32.toNatClampNeg (1 : Int32)) u5) zo zu (0 : Int32))) else
 if x3 < 0 ∨ 24 ≤ Int32.toNatClampNeg x3 then none else
 mX8_runs_L23 zn zm zj zw zs zk zt za zb zl n zf zv (upd zo (Int32.toNatClampNeg x3) (vp_nar .boolean (0 : Int32))) (upd zu (Int32.toNatClampNeg x3) (vp_nar .boolean (0 : Int32))) x1 x2 (x3 + (1 : Int32))
def mX8_runs_L2 (zn : Int32) (zm : Int32) (zj : Int32) (zw : Nat → Int32) (zs : Nat → Int32) (zk : Nat → Int32) (zt : Nat → Int32) (za : Nat → Int32) (zb : Nat → Int32) (zl : Nat → Int32)  : Nat → (Int32) → (Nat → Int64) → (Nat → Int32) → (Nat → Int32) → (Int32) → (Int32) → (Int32) → Option ((Int32) × (Nat → Int64) × (Nat → Int32) × (Nat → Int32))
 | 0, _, _, _, _, _, _, _ => none
 | n + 1, zf, zv, zo, zu, x1, x2, x3 => if (6 : Int32) ≤ x3 then
 mX8_runs_L23 zn zm zj zw zs zk zt za zb zl FU zf zv zo zu x1 x2 (0 : Int32) else
 if x3 < 0 ∨ 6 ≤ Int32.toNatClampNeg x3 then none else
 mX8_runs_L2 zn zm zj zw zs zk zt za zb zl n zf (vp_updL zv (Int32.toNatClampNeg x3) (0 : Int64)) zo zu x1 x2 (x3 + (1 : Int32))
def mX8_runs (zn : Int32) (zm : Int32) (zj : Int32) (zf : Int32) (zw : Nat → Int32) (zs : Nat → Int32) (zk : Nat → Int32) (zt : Nat → Int32) (za : Nat → Int32) (zb : Nat → Int32) (zl : Nat → Int32) (zv : Nat → Int64) (zo : Nat → Int32) (zu : Nat → Int32) (x1 : Int32) (x2 : Int32) : Option ((Int32) × (Nat → Int64) × (Nat → Int32) × (Nat → Int32)) := mX8_runs_L2 zn zm zj zw zs zk zt za zb zl FU zf zv zo zu x1 x2 (0 : Int32)
def mX8_many (zfr : Nat → Int32) (zto : Nat → Int32) : Option (Int32) := some (((((zto (Int32.toNatClampNeg (0 : Int32))) - (zfr (Int32.toNatClampNeg (0 : Int32)))) + (1 : Int32)) * (((zto (Int32.toNatClampNeg (1 : Int32))) - (zfr (Int32.toNatClampNeg (1 : Int32)))) + (1 : Int32))))
def mX8_all_L133 (zn : Int32) (zm : Int32) (zw : Nat → Int32) (zs : Nat → Int32) (zfr : Nat → Int32) (zto : Nat → Int32) (zk : Nat → Int32) (zt : Nat → Int32) (za : Nat → Int32) (zb : Nat → Int32) (k53 : (Int32) → (Int32) → (Int32) → (Nat → Int32) → (Nat → Int64) → (Nat → Int32) → (Nat → Int32) → (Nat → Int32) → (Nat → Int32) → (Nat → Int32) → (Int32) → Option ((Int32) × (Int32) × (Int32) × (Nat → Int32) × (Nat → Int64) × (Nat → Int32) × (Nat → Int32) × (Nat → Int32) × (Nat → Int32) × (Nat → Int32))) (k70 : (Int32) → (Int32) → (Int32) → (Nat → Int32) → (Nat → Int64) → (Nat → Int32) → (Nat → Int32) → (Nat → Int32) → (Nat → Int32) → (Nat → Int32) → (Int32) → (Int32) → Option ((Int32) × (Int32) × (Int32) × (Nat → Int32) × (Nat → Int64) × (Nat → Int32) × (Nat → Int32) × (Nat → Int32) × (Nat → Int32) × (Nat → Int32))) (k106 : (Int32) → (Int32) → (Int32) → (Nat → Int32) → (Nat → Int64) → (Nat → Int32) → (Nat → Int32) → (Nat → Int32) → (Nat → Int32) → (Nat → Int32) → (Int32) → (Int32) → (Int32) → Option ((Int32) × (Int32) × (Int32) × (Nat → Int32) × (Nat → Int64) × (Nat → Int32) × (Nat → Int32) × (Nat → Int32) × (Nat → Int32) × (Nat → Int32))) (zj : Int32) (zf : Int32) (zr : Int32) (zl : Nat → Int32) (zv : Nat → Int64) (zo : Nat → Int32) (zu : Nat → Int32) (zov : Nat → Int32) (ztu : Nat → Int32) (zsh : Nat → Int32) (x1 : Int32) (x2 : Int32) (x3 : Int32) : Option ((Int32) × (Int32) × (Int32) × (Nat → Int32) × (Nat → Int64) × (Nat → Int32) × (Nat → Int32) × (Nat → Int32) × (Nat → Int32) × (Nat → Int32)) := if x3 < 0 ∨ 24 ≤ Int32.toNatClampNeg x3 then none else
 if (zo (Int32.toNatClampNeg x3)) = (0 : Int32) then
 k106 zj zf zr zl zv zo zu zov ztu zsh x1 x2 (x3 + (1 : Int32)) else
 if (zsh (Int32.toNatClampNeg x3)) = (-1 : Int32) then
 k106 zj zf zr zl zv zo zu (upd zov (Int32.toNatClampNeg x3) ((zov (Int32.toNatClampNeg x3)) + (1 : Int32))) ztu (upd zsh (Int32.toNatClampNeg x3) ((((32 : Int32) * (x1 - (zfr (Int32.toNatClampNeg (0 : Int32))))) + x2) - (zfr (Int32.toNatClampNeg (1 : Int32))))) x1 x2 (x3 + (1 : Int32)) else
 k106 zj zf zr zl zv zo zu (upd zov (Int32.toNatClampNeg x3) ((zov (Int32.toNatClampNeg x3)) + (1 : Int32))) ztu zsh x1 x2 (x3 + (1 : Int32))
def mX8_all_L106 (zn : Int32) (zm : Int32) (zw : Nat → Int32) (zs : Nat → Int32) (zfr : Nat → Int32) (zto : Nat → Int32) (zk : Nat → Int32) (zt : Nat → Int32) (za : Nat → Int32) (zb : Nat → Int32) (k53 : (Int32) → (Int32) → (Int32) → (Nat → Int32) → (Nat → Int64) → (Nat → Int32) → (Nat → Int32) → (Nat → Int32) → (Nat → Int32) → (Nat → Int32) → (Int32) → Option ((Int32) × (Int32) × (Int32) × (Nat → Int32) × (Nat → Int64) × (Nat → Int32) × (Nat → Int32) × (Nat → Int32) × (Nat → Int32) × (Nat → Int32))) (k70 : (Int32) → (Int32) → (Int32) → (Nat → Int32) → (Nat → Int64) → (Nat → Int32) → (Nat → Int32) → (Nat → Int32) → (Nat → Int32) → (Nat → Int32) → (Int32) → (Int32) → Option ((Int32) × (Int32) × (Int32) × (Nat → Int32) × (Nat → Int64) × (Nat → Int32) × (Nat → Int32) × (Nat → Int32) × (Nat → Int32) × (Nat → Int32))) : Nat → (Int32) → (Int32) → (Int32) → (Nat → Int32) → (Nat → Int64) → (Nat → Int32) → (Nat → Int32) → (Nat → Int32) → (Nat → Int32) → (Nat → Int32) → (Int32) → (Int32) → (Int32) → Option ((Int32) × (Int32) × (Int32) × (Nat → Int32) × (Nat → Int64) × (Nat → Int32) × (Nat → Int32) × (Nat → Int32) × (Nat → Int32) × (Nat → Int32))
 | 0, _, _, _, _, _, _, _, _, _, _, _, _, _ => none
 | n + 1, zj, zf, zr, zl, zv, zo, zu, zov, ztu, zsh, x1, x2, x3 => if zn ≤ x3 then
 k70 zj zf zr zl zv zo zu zov ztu zsh x1 (x2 + (1 : Int32)) else
 if x3 < 0 ∨ 24 ≤ Int32.toNatClampNeg x3 then none else
 if (zu (Int32.toNatClampNeg x3)) = (0 : Int32) then
 mX8_all_L133 zn zm zw zs zfr zto zk zt za zb k53 k70 (mX8_all_L106 zn zm zw zs zfr zto zk zt za zb k53 k70 n) zj zf zr zl zv zo zu zov ztu zsh x1 x2 x3 else
 mX8_all_L133 zn zm zw zs zfr zto zk zt za zb k53 k70 (mX8_all_L106 zn zm zw zs zfr zto zk zt za zb k53 k70 n) zj zf zr zl zv zo zu zov (upd ztu (Int32.toNatClampNeg x3) ((ztu (Int32.toNatClampNeg x3)) + (1 : Int32))) zsh x1 x2 x3
def mX8_all_L70 (zn : Int32) (zm : Int32) (zw : Nat → Int32) (zs : Nat → Int32) (zfr : Nat → Int32) (zto : Nat → Int32) (zk : Nat → Int32) (zt : Nat → Int32) (za : Nat → Int32) (zb : Nat → Int32) (k53 : (Int32) → (Int32) → (Int32) → (Nat → Int32) → (Nat → Int64) → (Nat → Int32) → (Nat → Int32) → (Nat → Int32) → (Nat → Int32) → (Nat → Int32) → (Int32) → Option ((Int32) × (Int32) × (Int32) × (Nat → Int32) × (Nat → Int64) × (Nat → Int32) × (Nat → Int32) × (Nat → Int32) × (Nat → Int32) × (Nat → Int32))) : Nat → (Int32) → (Int32) → (Int32) → (Nat → Int32) → (Nat → Int64) → (Nat → Int32) → (Nat → Int32) → (Nat → Int32) → (Nat → Int32) → (Nat → Int32) → (Int32) → (Int32) → Option ((Int32) × (Int32) × (Int32) × (Nat → Int32) × (Nat → Int64) × (Nat → Int32) × (Nat → Int32) × (Nat → Int32) × (Nat → Int32) × (Nat → Int32))
 | 0, _, _, _, _, _, _, _, _, _, _, _, _ => none
 | n + 1, zj, zf, zr, zl, zv, zo, zu, zov, ztu, zsh, x1, x2 => if (zto (Int32.toNatClampNeg (1 : Int32))) < x2 then
 k53 zj zf zr zl zv zo zu zov ztu zsh (x1 + (1 : Int32)) else
 (mX8_runs zn zm zj zf zw zs zk zt za zb zl zv zo zu x1 x2).bind (fun u6 =>
 if u6.1 = (-1 : Int32) then
 mX8_all_L106 zn zm zw zs zfr zto zk zt za zb k53 (mX8_all_L70 zn zm zw zs zfr zto zk zt za zb k53 n) FU zj u6.1 zr zl u6.2.1 u6.2.2.1 u6.2.2.2 zov ztu zsh x1 x2 (0 : Int32) else
 mX8_all_L106 zn zm zw zs zfr zto zk zt za zb k53 (mX8_all_L70 zn zm zw zs zfr zto zk zt za zb k53 n) FU zj u6.1 (zr + (1 : Int32)) zl u6.2.1 u6.2.2.1 u6.2.2.2 zov ztu zsh x1 x2 (0 : Int32))
def mX8_all_L53 (zn : Int32) (zm : Int32) (zw : Nat → Int32) (zs : Nat → Int32) (zfr : Nat → Int32) (zto : Nat → Int32) (zk : Nat → Int32) (zt : Nat → Int32) (za : Nat → Int32) (zb : Nat → Int32)  : Nat → (Int32) → (Int32) → (Int32) → (Nat → Int32) → (Nat → Int64) → (Nat → Int32) → (Nat → Int32) → (Nat → Int32) → (Nat → Int32) → (Nat → Int32) → (Int32) → Option ((Int32) × (Int32) × (Int32) × (Nat → Int32) × (Nat → Int64) × (Nat → Int32) × (Nat → Int32) × (Nat → Int32) × (Nat → Int32) × (Nat → Int32))
 | 0, _, _, _, _, _, _, _, _, _, _, _ => none
 | n + 1, zj, zf, zr, zl, zv, zo, zu, zov, ztu, zsh, x1 => if (zto (Int32.toNatClampNeg (0 : Int32))) < x1 then
 some (zj, zf, zr, zl, zv, zo, zu, zov, ztu, zsh) else
 mX8_all_L70 zn zm zw zs zfr zto zk zt za zb (mX8_all_L53 zn zm zw zs zfr zto zk zt za zb n) FU zj zf zr zl zv zo zu zov ztu zsh x1 (zfr (Int32.toNatClampNeg (1 : Int32)))
def mX8_all_L11 (zn : Int32) (zm : Int32) (zw : Nat → Int32) (zs : Nat → Int32) (zfr : Nat → Int32) (zto : Nat → Int32) (zk : Nat → Int32) (zt : Nat → Int32) (za : Nat → Int32) (zb : Nat → Int32)  : Nat → (Int32) → (Int32) → (Int32) → (Nat → Int32) → (Nat → Int64) → (Nat → Int32) → (Nat → Int32) → (Nat → Int32) → (Nat → Int32) → (Nat → Int32) → (Int32) → Option ((Int32) × (Int32) × (Int32) × (Nat → Int32) × (Nat → Int64) × (Nat → Int32) × (Nat → Int32) × (Nat → Int32) × (Nat → Int32) × (Nat → Int32))
 | 0, _, _, _, _, _, _, _, _, _, _, _ => none
 | n + 1, zj, zf, zr, zl, zv, zo, zu, zov, ztu, zsh, x1 => if zn ≤ x1 then
 mX8_all_L53 zn zm zw zs zfr zto zk zt za zb FU zj zf zr zl zv zo zu zov ztu zsh (zfr (Int32.toNatClampNeg (0 : Int32))) else
 if x1 < 0 ∨ 24 ≤ Int32.toNatClampNeg x1 then none else
 mX8_all_L11 zn zm zw zs zfr zto zk zt za zb n zj zf zr zl zv zo zu (upd zov (Int32.toNatClampNeg x1) (0 : Int32)) (upd ztu (Int32.toNatClampNeg x1) (0 : Int32)) (upd zsh (Int32.toNatClampNeg x1) (-1 : Int32)) (x1 + (1 : Int32))
def mX8_all (zn : Int32) (zm : Int32) (zj : Int32) (zf : Int32) (zr : Int32) (zw : Nat → Int32) (zs : Nat → Int32) (zfr : Nat → Int32) (zto : Nat → Int32) (zk : Nat → Int32) (zt : Nat → Int32) (za : Nat → Int32) (zb : Nat → Int32) (zl : Nat → Int32) (zv : Nat → Int64) (zo : Nat → Int32) (zu : Nat → Int32) (zov : Nat → Int32) (ztu : Nat → Int32) (zsh : Nat → Int32) : Option ((Int32) × (Int32) × (Int32) × (Nat → Int32) × (Nat → Int64) × (Nat → Int32) × (Nat → Int32) × (Nat → Int32) × (Nat → Int32) × (Nat → Int32)) := (mX8_lays zn zj zk zb zl).bind (fun u1 =>
 mX8_all_L11 zn zm zw zs zfr zto zk zt za zb FU u1.1 zf (0 : Int32) u1.2 zv zo zu zov ztu zsh (0 : Int32))
def mX8_isRun (zfr : Nat → Int32) (zto : Nat → Int32) (x1 : Int32) (x2 : Int32) : Option (Int32) := (mX8_in ((x1).toInt64) (((zfr (Int32.toNatClampNeg (0 : Int32)))).toInt64) (((zto (Int32.toNatClampNeg (0 : Int32)))).toInt64)).bind (fun u1 =>
 if u1 = (0 : Int32) then
 some ((0 : Int32)) else
 (mX8_in ((x2).toInt64) (((zfr (Int32.toNatClampNeg (1 : Int32)))).toInt64) (((zto (Int32.toNatClampNeg (1 : Int32)))).toInt64)).bind (fun u3 =>
 if u3 = (0 : Int32) then
 some ((0 : Int32)) else
 some ((1 : Int32))))
def mX8_run (zn : Int32) (zm : Int32) (zj : Int32) (zf : Int32) (zw : Nat → Int32) (zs : Nat → Int32) (zfr : Nat → Int32) (zto : Nat → Int32) (zk : Nat → Int32) (zt : Nat → Int32) (za : Nat → Int32) (zb : Nat → Int32) (zl : Nat → Int32) (zv : Nat → Int64) (zo : Nat → Int32) (zu : Nat → Int32) (x1 : Int32) (x2 : Int32) (x3 : Int32) : Option (Int32 × (Int32) × (Int32) × (Nat → Int32) × (Nat → Int64) × (Nat → Int32) × (Nat → Int32)) := (mX8_isRun zfr zto x1 x2).bind (fun u1 =>
 if u1 = (0 : Int32) then
 some ((-2147483648 : Int32), zj, zf, zl, zv, zo, zu) else
 (mX8_isName x3).bind (fun u3 =>
 if u3 = (0 : Int32) then
 some ((-2147483648 : Int32), zj, zf, zl, zv, zo, zu) else
 (mX8_lays zn zj zk zb zl).bind (fun u5 =>
 (mX8_runs zn zm u5.1 zf zw zs zk zt za zb u5.2 zv zo zu x1 x2).bind (fun u6 =>
 if x3 < 0 ∨ 6 ≤ Int32.toNatClampNeg x3 then none else
 some ((((u6.2.1 (Int32.toNatClampNeg x3))).toInt32), u5.1, u6.1, u5.2, u6.2.1, u6.2.2.1, u6.2.2.2)))))
def mX8_first (zn : Int32) (zm : Int32) (zj : Int32) (zf : Int32) (zw : Nat → Int32) (zs : Nat → Int32) (zfr : Nat → Int32) (zto : Nat → Int32) (zk : Nat → Int32) (zt : Nat → Int32) (za : Nat → Int32) (zb : Nat → Int32) (zl : Nat → Int32) (zv : Nat → Int64) (zo : Nat → Int32) (zu : Nat → Int32) (x1 : Int32) (x2 : Int32) : Option (Int32 × (Int32) × (Int32) × (Nat → Int32) × (Nat → Int64) × (Nat → Int32) × (Nat → Int32)) := (mX8_isRun zfr zto x1 x2).bind (fun u1 =>
 if u1 = (0 : Int32) then
 some ((-1 : Int32), zj, zf, zl, zv, zo, zu) else
 (mX8_lays zn zj zk zb zl).bind (fun u3 =>
 (mX8_runs zn zm u3.1 zf zw zs zk zt za zb u3.2 zv zo zu x1 x2).bind (fun u4 =>
 some (u4.1, u3.1, u4.1, u3.2, u4.2.1, u4.2.2.1, u4.2.2.2))))
def mX8_ends_L24 (zm : Int32) (zw : Nat → Int32) (zs : Nat → Int32)  (zle : Nat → Int64) (zmo : Nat → Int64) (x1 : Int32) (x2 : Int64) (x4 : Int64) (t0 : Int32) : Option (Int32 × (Nat → Int64) × (Nat → Int64)) := if t0 = (0 : Int32) then
 if x1 < 0 ∨ 6 ≤ Int32.toNatClampNeg x1 then none else
 if ¬ (t0 = 0 ∨ t0 = 1) then none else
 some (t0, (vp_updL zle (Int32.toNatClampNeg x1) x2), (vp_updL zmo (Int32.toNatClampNeg x1) x4)) else
 if zm = (0 : Int32) then
 (mX8_low zw zs x1).bind (fun u11 =>
 if x1 < 0 ∨ 6 ≤ Int32.toNatClampNeg x1 then none else
 (mX8_high zw zs x1).bind (fun u13 =>
 if ¬ (t0 = 0 ∨ t0 = 1) then none else
 some (t0, (vp_updL zle (Int32.toNatClampNeg x1) u11), (vp_updL zmo (Int32.toNatClampNeg x1) u13)))) else
 (mX8_put zm zw zs x1 x2).bind (fun u7 =>
 if x1 < 0 ∨ 6 ≤ Int32.toNatClampNeg x1 then none else
 (mX8_put zm zw zs x1 x4).bind (fun u9 =>
 if ¬ (t0 = 0 ∨ t0 = 1) then none else
 some (t0, (vp_updL zle (Int32.toNatClampNeg x1) u7), (vp_updL zmo (Int32.toNatClampNeg x1) u9))))
def mX8_ends (zm : Int32) (zw : Nat → Int32) (zs : Nat → Int32) (zle : Nat → Int64) (zmo : Nat → Int64) (x1 : Int32) (x2 : Int64) (x4 : Int64) : Option (Int32 × (Nat → Int64) × (Nat → Int64)) := (mX8_goesOver zw zs x1 x2).bind (fun u1 =>
 if u1 = (0 : Int32) then
 (mX8_goesOver zw zs x1 x4).bind (fun u3 =>
 if u3 = (0 : Int32) then
 mX8_ends_L24 zm zw zs zle zmo x1 x2 x4 (0 : Int32) else
 mX8_ends_L24 zm zw zs zle zmo x1 x2 x4 (1 : Int32)) else
 mX8_ends_L24 zm zw zs zle zmo x1 x2 x4 (1 : Int32))
def mX8_products (zm : Int32) (zw : Nat → Int32) (zs : Nat → Int32) (zt : Nat → Int32) (za : Nat → Int32) (zb : Nat → Int32) (zle : Nat → Int64) (zmo : Nat → Int64) (x1 : Int32) : Option (Int32 × (Nat → Int64) × (Nat → Int64)) := if x1 < 0 ∨ 24 ≤ Int32.toNatClampNeg x1 then none else
 if (za (Int32.toNatClampNeg x1)) < 0 ∨ 6 ≤ Int32.toNatClampNeg (za (Int32.toNatClampNeg x1)) then none else
 if (zb (Int32.toNatClampNeg x1)) < 0 ∨ 6 ≤ Int32.toNatClampNeg (zb (Int32.toNatClampNeg x1)) then none else
 (mX8_ends zm zw zs zle zmo (zt (Int32.toNatClampNeg x1)) (if (if ((zmo (Int32.toNatClampNeg (za (Int32.toNatClampNeg x1)))) * (zmo (Int32.toNatClampNeg (zb (Int32.toNatClampNeg x1))))) < ((zmo (Int32.toNatClampNeg (za (Int32.toNatClampNeg x1)))) * (zle (Int32.toNatClampNeg (zb (Int32.toNatClampNeg x1))))) then ((zmo (Int32.toNatClampNeg (za (Int32.toNatClampNeg x1)))) * (zmo (Int32.toNatClampNeg (zb (Int32.toNatClampNeg x1))))) else ((zmo (Int32.toNatClampNeg (za (Int32.toNatClampNeg x1)))) * (zle (Int32.toNatClampNeg (zb (Int32.toNatClampNeg x1)))))) < (if ((zle (Int32.toNatClampNeg (za (Int32.toNatClampNeg x1)))) * (zmo (Int32.toNatClampNeg (zb (Int32.toNatClampNeg x1))))) < ((zle (Int32.toNatClampNeg (za (Int32.toNatClampNeg x1)))) * (zle (Int32.toNatClampNeg (zb (Int32.toNatClampNeg x1))))) then ((zle (Int32.toNatClampNeg (za (Int32.toNatClampNeg x1)))) * (zmo (Int32.toNatClampNeg (zb (Int32.toNatClampNeg x1))))) else ((zle (Int32.toNatClampNeg (za (Int32.toNatClampNeg x1)))) * (zle (Int32.toNatClampNeg (zb (Int32.toNatClampNeg x1)))))) then (if ((zmo (Int32.toNatClampNeg (za (Int32.toNatClampNeg x1)))) * (zmo (Int32.toNatClampNeg (zb (Int32.toNatClampNeg x1))))) < ((zmo (Int32.toNatClampNeg (za (Int32.toNatClampNeg x1)))) * (zle (Int32.toNatClampNeg (zb (Int32.toNatClampNeg x1))))) then ((zmo (Int32.toNatClampNeg (za (Int32.toNatClampNeg x1)))) * (zmo (Int32.toNatClampNeg (zb (Int32.toNatClampNeg x1))))) else ((zmo (Int32.toNatClampNeg (za (Int32.toNatClampNeg x1)))) * (zle (Int32.toNatClampNeg (zb (Int32.toNatClampNeg x1)))))) else (if ((zle (Int32.toNatClampNeg (za (Int32.toNatClampNeg x1)))) * (zmo (Int32.toNatClampNeg (zb (Int32.toNatClampNeg x1))))) < ((zle (Int32.toNatClampNeg (za (Int32.toNatClampNeg x1)))) * (zle (Int32.toNatClampNeg (zb (Int32.toNatClampNeg x1))))) then ((zle (Int32.toNatClampNeg (za (Int32.toNatClampNeg x1)))) * (zmo (Int32.toNatClampNeg (zb (Int32.toNatClampNeg x1))))) else ((zle (Int32.toNatClampNeg (za (Int32.toNatClampNeg x1)))) * (zle (Int32.toNatClampNeg (zb (Int32.toNatClampNeg x1))))))) (if (if ((zmo (Int32.toNatClampNeg (za (Int32.toNatClampNeg x1)))) * (zmo (Int32.toNatClampNeg (zb (Int32.toNatClampNeg x1))))) < ((zmo (Int32.toNatClampNeg (za (Int32.toNatClampNeg x1)))) * (zle (Int32.toNatClampNeg (zb (Int32.toNatClampNeg x1))))) then ((zmo (Int32.toNatClampNeg (za (Int32.toNatClampNeg x1)))) * (zle (Int32.toNatClampNeg (zb (Int32.toNatClampNeg x1))))) else ((zmo (Int32.toNatClampNeg (za (Int32.toNatClampNeg x1)))) * (zmo (Int32.toNatClampNeg (zb (Int32.toNatClampNeg x1)))))) < (if ((zle (Int32.toNatClampNeg (za (Int32.toNatClampNeg x1)))) * (zmo (Int32.toNatClampNeg (zb (Int32.toNatClampNeg x1))))) < ((zle (Int32.toNatClampNeg (za (Int32.toNatClampNeg x1)))) * (zle (Int32.toNatClampNeg (zb (Int32.toNatClampNeg x1))))) then ((zle (Int32.toNatClampNeg (za (Int32.toNatClampNeg x1)))) * (zle (Int32.toNatClampNeg (zb (Int32.toNatClampNeg x1))))) else ((zle (Int32.toNatClampNeg (za (Int32.toNatClampNeg x1)))) * (zmo (Int32.toNatClampNeg (zb (Int32.toNatClampNeg x1)))))) then (if ((zle (Int32.toNatClampNeg (za (Int32.toNatClampNeg x1)))) * (zmo (Int32.toNatClampNeg (zb (Int32.toNatClampNeg x1))))) < ((zle (Int32.toNatClampNeg (za (Int32.toNatClampNeg x1)))) * (zle (Int32.toNatClampNeg (zb (Int32.toNatClampNeg x1))))) then ((zle (Int32.toNatClampNeg (za (Int32.toNatClampNeg x1)))) * (zle (Int32.toNatClampNeg (zb (Int32.toNatClampNeg x1))))) else ((zle (Int32.toNatClampNeg (za (Int32.toNatClampNeg x1)))) * (zmo (Int32.toNatClampNeg (zb (Int32.toNatClampNeg x1)))))) else (if ((zmo (Int32.toNatClampNeg (za (Int32.toNatClampNeg x1)))) * (zmo (Int32.toNatClampNeg (zb (Int32.toNatClampNeg x1))))) < ((zmo (Int32.toNatClampNeg (za (Int32.toNatClampNeg x1)))) * (zle (Int32.toNatClampNeg (zb (Int32.toNatClampNeg x1))))) then ((zmo (Int32.toNatClampNeg (za (Int32.toNatClampNeg x1)))) * (zle (Int32.toNatClampNeg (zb (Int32.toNatClampNeg x1))))) else ((zmo (Int32.toNatClampNeg (za (Int32.toNatClampNeg x1)))) * (zmo (Int32.toNatClampNeg (zb (Int32.toNatClampNeg x1)))))))).bind (fun u4 =>
 if ¬ (u4.1 = 0 ∨ u4.1 = 1) then none else
 some (u4.1, u4.2.1, u4.2.2))
def mX8_belows_L74 (zm : Int32) (zw : Nat → Int32) (zs : Nat → Int32) (zt : Nat → Int32) (za : Nat → Int32) (zb : Nat → Int32)  (zle : Nat → Int64) (zmo : Nat → Int64) (x1 : Int32) (x2 : Int32) : Option (Int32 × (Nat → Int64) × (Nat → Int64)) := if x2 = (0 : Int32) then
 if x1 < 0 ∨ 24 ≤ Int32.toNatClampNeg x1 then none else
 (mX8_ends zm zw zs zle zmo (zt (Int32.toNatClampNeg x1)) (0 : Int64) (1 : Int64)).bind (fun u14 =>
 if ¬ (u14.1 = 0 ∨ u14.1 = 1) then none else
 some (u14.1, u14.2.1, u14.2.2)) else
 if x1 < 0 ∨ 24 ≤ Int32.toNatClampNeg x1 then none else
 if (za (Int32.toNatClampNeg x1)) < 0 ∨ 6 ≤ Int32.toNatClampNeg (za (Int32.toNatClampNeg x1)) then none else
 if (zb (Int32.toNatClampNeg x1)) < 0 ∨ 6 ≤ Int32.toNatClampNeg (zb (Int32.toNatClampNeg x1)) then none else
 if (zle (Int32.toNatClampNeg (za (Int32.toNatClampNeg x1)))) < (zmo (Int32.toNatClampNeg (zb (Int32.toNatClampNeg x1)))) then
 (mX8_ends zm zw zs zle zmo (zt (Int32.toNatClampNeg x1)) (0 : Int64) (1 : Int64)).bind (fun u20 =>
 if ¬ (u20.1 = 0 ∨ u20.1 = 1) then none else
 some (u20.1, u20.2.1, u20.2.2)) else
 (mX8_ends zm zw zs zle zmo (zt (Int32.toNatClampNeg x1)) (0 : Int64) (0 : Int64)).bind (fun u22 =>
 if ¬ (u22.1 = 0 ∨ u22.1 = 1) then none else
 some (u22.1, u22.2.1, u22.2.2))
def mX8_belows_L30 (zm : Int32) (zw : Nat → Int32) (zs : Nat → Int32) (zt : Nat → Int32) (za : Nat → Int32) (zb : Nat → Int32)  (zle : Nat → Int64) (zmo : Nat → Int64) (x1 : Int32) (t0 : Int32) : Option (Int32 × (Nat → Int64) × (Nat → Int64)) := if t0 = (0 : Int32) then
 mX8_belows_L74 zm zw zs zt za zb zle zmo x1 t0 else
 if x1 < 0 ∨ 24 ≤ Int32.toNatClampNeg x1 then none else
 if (za (Int32.toNatClampNeg x1)) < 0 ∨ 6 ≤ Int32.toNatClampNeg (za (Int32.toNatClampNeg x1)) then none else
 if (zb (Int32.toNatClampNeg x1)) < 0 ∨ 6 ≤ Int32.toNatClampNeg (zb (Int32.toNatClampNeg x1)) then none else
 if (zle (Int32.toNatClampNeg (zb (Int32.toNatClampNeg x1)))) ≤ (zmo (Int32.toNatClampNeg (za (Int32.toNatClampNeg x1)))) then
 mX8_belows_L74 zm zw zs zt za zb zle zmo x1 t0 else
 (mX8_ends zm zw zs zle zmo (zt (Int32.toNatClampNeg x1)) (1 : Int64) (1 : Int64)).bind (fun u10 =>
 if ¬ (u10.1 = 0 ∨ u10.1 = 1) then none else
 some (u10.1, u10.2.1, u10.2.2))
def mX8_belows (zm : Int32) (zw : Nat → Int32) (zs : Nat → Int32) (zt : Nat → Int32) (za : Nat → Int32) (zb : Nat → Int32) (zle : Nat → Int64) (zmo : Nat → Int64) (x1 : Int32) : Option (Int32 × (Nat → Int64) × (Nat → Int64)) := if x1 < 0 ∨ 24 ≤ Int32.toNatClampNeg x1 then none else
 if (za (Int32.toNatClampNeg x1)) < 0 ∨ 6 ≤ Int32.toNatClampNeg (za (Int32.toNatClampNeg x1)) then none else
 if (zb (Int32.toNatClampNeg x1)) < 0 ∨ 6 ≤ Int32.toNatClampNeg (zb (Int32.toNatClampNeg x1)) then none else
 if (zs (Int32.toNatClampNeg (za (Int32.toNatClampNeg x1)))) = (zs (Int32.toNatClampNeg (zb (Int32.toNatClampNeg x1)))) then
 mX8_belows_L30 zm zw zs zt za zb zle zmo x1 (1 : Int32) else
 mX8_belows_L30 zm zw zs zt za zb zle zmo x1 (0 : Int32)
def mX8_goes (zm : Int32) (zw : Nat → Int32) (zs : Nat → Int32) (zk : Nat → Int32) (zt : Nat → Int32) (za : Nat → Int32) (zb : Nat → Int32) (zle : Nat → Int64) (zmo : Nat → Int64) (x1 : Int32) : Option (Int32 × (Nat → Int64) × (Nat → Int64)) := if x1 < 0 ∨ 24 ≤ Int32.toNatClampNeg x1 then none else
 if (zk (Int32.toNatClampNeg x1)) = (0 : Int32) then
 (mX8_ends zm zw zs zle zmo (zt (Int32.toNatClampNeg x1)) (((zb (Int32.toNatClampNeg x1))).toInt64) (((zb (Int32.toNatClampNeg x1))).toInt64)).bind (fun u3 =>
 if ¬ (u3.1 = 0 ∨ u3.1 = 1) then none else
 some (u3.1, u3.2.1, u3.2.2)) else
 if (zk (Int32.toNatClampNeg x1)) = (1 : Int32) then
 if (za (Int32.toNatClampNeg x1)) < 0 ∨ 6 ≤ Int32.toNatClampNeg (za (Int32.toNatClampNeg x1)) then none else
 (mX8_ends zm zw zs zle zmo (zt (Int32.toNatClampNeg x1)) (zle (Int32.toNatClampNeg (za (Int32.toNatClampNeg x1)))) (zmo (Int32.toNatClampNeg (za (Int32.toNatClampNeg x1))))).bind (fun u7 =>
 if ¬ (u7.1 = 0 ∨ u7.1 = 1) then none else
 some (u7.1, u7.2.1, u7.2.2)) else
 if (zk (Int32.toNatClampNeg x1)) = (2 : Int32) then
 if (za (Int32.toNatClampNeg x1)) < 0 ∨ 6 ≤ Int32.toNatClampNeg (za (Int32.toNatClampNeg x1)) then none else
 if (zb (Int32.toNatClampNeg x1)) < 0 ∨ 6 ≤ Int32.toNatClampNeg (zb (Int32.toNatClampNeg x1)) then none else
 (mX8_ends zm zw zs zle zmo (zt (Int32.toNatClampNeg x1)) ((zle (Int32.toNatClampNeg (za (Int32.toNatClampNeg x1)))) + (zle (Int32.toNatClampNeg (zb (Int32.toNatClampNeg x1))))) ((zmo (Int32.toNatClampNeg (za (Int32.toNatClampNeg x1)))) + (zmo (Int32.toNatClampNeg (zb (Int32.toNatClampNeg x1)))))).bind (fun u12 =>
 if ¬ (u12.1 = 0 ∨ u12.1 = 1) then none else
 some (u12.1, u12.2.1, u12.2.2)) else
 if (zk (Int32.toNatClampNeg x1)) = (3 : Int32) then
 if (za (Int32.toNatClampNeg x1)) < 0 ∨ 6 ≤ Int32.toNatClampNeg (za (Int32.toNatClampNeg x1)) then none else
 if (zb (Int32.toNatClampNeg x1)) < 0 ∨ 6 ≤ Int32.toNatClampNeg (zb (Int32.toNatClampNeg x1)) then none else
 (mX8_ends zm zw zs zle zmo (zt (Int32.toNatClampNeg x1)) ((zle (Int32.toNatClampNeg (za (Int32.toNatClampNeg x1)))) - (zmo (Int32.toNatClampNeg (zb (Int32.toNatClampNeg x1))))) ((zmo (Int32.toNatClampNeg (za (Int32.toNatClampNeg x1)))) - (zle (Int32.toNatClampNeg (zb (Int32.toNatClampNeg x1)))))).bind (fun u17 =>
 if ¬ (u17.1 = 0 ∨ u17.1 = 1) then none else
 some (u17.1, u17.2.1, u17.2.2)) else
 if (zk (Int32.toNatClampNeg x1)) = (4 : Int32) then
 (mX8_products zm zw zs zt za zb zle zmo x1).bind (fun u20 =>
 if ¬ (u20.1 = 0 ∨ u20.1 = 1) then none else
 some (u20.1, u20.2.1, u20.2.2)) else
 if (zk (Int32.toNatClampNeg x1)) = (5 : Int32) then
 if (za (Int32.toNatClampNeg x1)) < 0 ∨ 6 ≤ Int32.toNatClampNeg (za (Int32.toNatClampNeg x1)) then none else
 (mX8_ends zm zw zs zle zmo (zt (Int32.toNatClampNeg x1)) ((zle (Int32.toNatClampNeg (za (Int32.toNatClampNeg x1)))) * ((1 : Int64) <<< (((zb (Int32.toNatClampNeg x1))).toInt64 &&& 63))) ((zmo (Int32.toNatClampNeg (za (Int32.toNatClampNeg x1)))) * ((1 : Int64) <<< (((zb (Int32.toNatClampNeg x1))).toInt64 &&& 63)))).bind (fun u24 =>
 if ¬ (u24.1 = 0 ∨ u24.1 = 1) then none else
 some (u24.1, u24.2.1, u24.2.2)) else
 if (zk (Int32.toNatClampNeg x1)) = (6 : Int32) then
 if (za (Int32.toNatClampNeg x1)) < 0 ∨ 6 ≤ Int32.toNatClampNeg (za (Int32.toNatClampNeg x1)) then none else
 if (zb (Int32.toNatClampNeg x1)) < 0 ∨ 6 ≤ Int32.toNatClampNeg (zb (Int32.toNatClampNeg x1)) then none else
 (mX8_ends zm zw zs zle zmo (zt (Int32.toNatClampNeg x1)) (if (zle (Int32.toNatClampNeg (zb (Int32.toNatClampNeg x1)))) < (zle (Int32.toNatClampNeg (za (Int32.toNatClampNeg x1)))) then (zle (Int32.toNatClampNeg (zb (Int32.toNatClampNeg x1)))) else (zle (Int32.toNatClampNeg (za (Int32.toNatClampNeg x1))))) (if (zmo (Int32.toNatClampNeg (zb (Int32.toNatClampNeg x1)))) < (zmo (Int32.toNatClampNeg (za (Int32.toNatClampNeg x1)))) then (zmo (Int32.toNatClampNeg (zb (Int32.toNatClampNeg x1)))) else (zmo (Int32.toNatClampNeg (za (Int32.toNatClampNeg x1)))))).bind (fun u29 =>
 if ¬ (u29.1 = 0 ∨ u29.1 = 1) then none else
 some (u29.1, u29.2.1, u29.2.2)) else
 (mX8_belows zm zw zs zt za zb zle zmo x1).bind (fun u31 =>
 if ¬ (u31.1 = 0 ∨ u31.1 = 1) then none else
 some (u31.1, u31.2.1, u31.2.2))
def mX8_spans_L90 (zn : Int32) (zm : Int32) (zw : Nat → Int32) (zs : Nat → Int32) (zfr : Nat → Int32) (zto : Nat → Int32) (zk : Nat → Int32) (zt : Nat → Int32) (za : Nat → Int32) (zb : Nat → Int32)  : Nat → (Int32) → (Nat → Int32) → (Nat → Int64) → (Nat → Int64) → (Nat → Int32) → (Int32) → Option ((Int32) × (Nat → Int32) × (Nat → Int64) × (Nat → Int64) × (Nat → Int32))
 | 0, _, _, _, _, _, _ => none
 | n + 1, zj, zl, zle, zmo, zc, x1 => if zj ≤ x1 then
 some (zj, zl, zle, zmo, zc) else
 if x1 < 0 ∨ 288 ≤ Int32.toNatClampNeg x1 then none else
 (mX8_goes zm zw zs zk zt za zb zle zmo (zl (Int32.toNatClampNeg x1))).bind (fun u11 =>
 if u11.1 = (0 : Int32) then
 if (zl (Int32.toNatClampNeg x1)) < 0 ∨ 24 ≤ Int32.toNatClampNeg (zl (Int32.toNatClampNeg x1)) then none else
 if (zc (Int32.toNatClampNeg (zl (Int32.toNatClampNeg x1)))) = (0 : Int32) then
 mX8_spans_L90 zn zm zw zs zfr zto zk zt za zb n zj zl u11.2.1 u11.2.2 (upd zc (Int32.toNatClampNeg (zl (Int32.toNatClampNeg x1))) (vp_nar .boolean (0 : Int32))) (x1 + (1 : Int32)) else
 mX8_spans_L90 zn zm zw zs zfr zto zk zt za zb n zj zl u11.2.1 u11.2.2 (upd zc (Int32.toNatClampNeg (zl (Int32.toNatClampNeg x1))) (vp_nar .boolean (1 : Int32))) (x1 + (1 : Int32)) else
 if (zl (Int32.toNatClampNeg x1)) < 0 ∨ 24 ≤ Int32.toNatClampNeg (zl (Int32.toNatClampNeg x1)) then none else
 mX8_spans_L90 zn zm zw zs zfr zto zk zt za zb n zj zl u11.2.1 u11.2.2 (upd zc (Int32.toNatClampNeg (zl (Int32.toNatClampNeg x1))) (vp_nar .boolean (1 : Int32))) (x1 + (1 : Int32)))
def mX8_spans_L57 (zn : Int32) (zm : Int32) (zw : Nat → Int32) (zs : Nat → Int32) (zfr : Nat → Int32) (zto : Nat → Int32) (zk : Nat → Int32) (zt : Nat → Int32) (za : Nat → Int32) (zb : Nat → Int32)  : Nat → (Int32) → (Nat → Int32) → (Nat → Int64) → (Nat → Int64) → (Nat → Int32) → (Int32) → Option ((Int32) × (Nat → Int32) × (Nat → Int64) × (Nat → Int64) × (Nat → Int32))
 | 0, _, _, _, _, _, _ => none
 | n + 1, zj, zl, zle, zmo, zc, x1 => if (2 : Int32) ≤ x1 then
 mX8_spans_L90 zn zm zw zs zfr zto zk zt za zb FU zj zl zle zmo zc (0 : Int32) else
 if x1 < 0 ∨ 2 ≤ Int32.toNatClampNeg x1 then none else
 (mX8_ends zm zw zs zle zmo x1 (((zfr (Int32.toNatClampNeg x1))).toInt64) (((zto (Int32.toNatClampNeg x1))).toInt64)).bind (fun u8 =>
 mX8_spans_L57 zn zm zw zs zfr zto zk zt za zb n zj zl u8.2.1 u8.2.2 zc (x1 + (1 : Int32)))
def mX8_spans_L34 (zn : Int32) (zm : Int32) (zw : Nat → Int32) (zs : Nat → Int32) (zfr : Nat → Int32) (zto : Nat → Int32) (zk : Nat → Int32) (zt : Nat → Int32) (za : Nat → Int32) (zb : Nat → Int32)  : Nat → (Int32) → (Nat → Int32) → (Nat → Int64) → (Nat → Int64) → (Nat → Int32) → (Int32) → Option ((Int32) × (Nat → Int32) × (Nat → Int64) × (Nat → Int64) × (Nat → Int32))
 | 0, _, _, _, _, _, _ => none
 | n + 1, zj, zl, zle, zmo, zc, x1 => if zn ≤ x1 then
 mX8_spans_L57 zn zm zw zs zfr zto zk zt za zb FU zj zl zle zmo zc (0 : Int32) else
 if x1 < 0 ∨ 24 ≤ Int32.toNatClampNeg x1 then none else
 mX8_spans_L34 zn zm zw zs zfr zto zk zt za zb n zj zl zle zmo (upd zc (Int32.toNatClampNeg x1) (vp_nar .boolean (0 : Int32))) (x1 + (1 : Int32))
def mX8_spans_L6 (zn : Int32) (zm : Int32) (zw : Nat → Int32) (zs : Nat → Int32) (zfr : Nat → Int32) (zto : Nat → Int32) (zk : Nat → Int32) (zt : Nat → Int32) (za : Nat → Int32) (zb : Nat → Int32)  : Nat → (Int32) → (Nat → Int32) → (Nat → Int64) → (Nat → Int64) → (Nat → Int32) → (Int32) → Option ((Int32) × (Nat → Int32) × (Nat → Int64) × (Nat → Int64) × (Nat → Int32))
 | 0, _, _, _, _, _, _ => none
 | n + 1, zj, zl, zle, zmo, zc, x1 => if (6 : Int32) ≤ x1 then
 mX8_spans_L34 zn zm zw zs zfr zto zk zt za zb FU zj zl zle zmo zc (0 : Int32) else
 if x1 < 0 ∨ 6 ≤ Int32.toNatClampNeg x1 then none else
 mX8_spans_L6 zn zm zw zs zfr zto zk zt za zb n zj zl (vp_updL zle (Int32.toNatClampNeg x1) (0 : Int64)) (vp_updL zmo (Int32.toNatClampNeg x1) (0 : Int64)) zc (x1 + (1 : Int32))
def mX8_spans (zn : Int32) (zm : Int32) (zj : Int32) (zw : Nat → Int32) (zs : Nat → Int32) (zfr : Nat → Int32) (zto : Nat → Int32) (zk : Nat → Int32) (zt : Nat → Int32) (za : Nat → Int32) (zb : Nat → Int32) (zl : Nat → Int32) (zle : Nat → Int64) (zmo : Nat → Int64) (zc : Nat → Int32) : Option ((Int32) × (Nat → Int32) × (Nat → Int64) × (Nat → Int64) × (Nat → Int32)) := (mX8_lays zn zj zk zb zl).bind (fun u1 =>
 mX8_spans_L6 zn zm zw zs zfr zto zk zt za zb FU u1.1 u1.2 zle zmo zc (0 : Int32))
def mX8_ends_ (zn : Int32) (zm : Int32) (zj : Int32) (zw : Nat → Int32) (zs : Nat → Int32) (zfr : Nat → Int32) (zto : Nat → Int32) (zk : Nat → Int32) (zt : Nat → Int32) (za : Nat → Int32) (zb : Nat → Int32) (zl : Nat → Int32) (zle : Nat → Int64) (zmo : Nat → Int64) (zc : Nat → Int32) (x1 : Int32) (x2 : Int32) : Option (Int32 × (Int32) × (Nat → Int32) × (Nat → Int64) × (Nat → Int64) × (Nat → Int32)) := (mX8_isName x1).bind (fun u1 =>
 if u1 = (0 : Int32) then
 some ((-2147483648 : Int32), zj, zl, zle, zmo, zc) else
 (mX8_in ((x2).toInt64) (0 : Int64) (1 : Int64)).bind (fun u3 =>
 if u3 = (0 : Int32) then
 some ((-2147483648 : Int32), zj, zl, zle, zmo, zc) else
 (mX8_spans zn zm zj zw zs zfr zto zk zt za zb zl zle zmo zc).bind (fun u5 =>
 if x2 = (0 : Int32) then
 if x1 < 0 ∨ 6 ≤ Int32.toNatClampNeg x1 then none else
 some ((((u5.2.2.1 (Int32.toNatClampNeg x1))).toInt32), u5.1, u5.2.1, u5.2.2.1, u5.2.2.2.1, u5.2.2.2.2) else
 if x1 < 0 ∨ 6 ≤ Int32.toNatClampNeg x1 then none else
 some ((((u5.2.2.2.1 (Int32.toNatClampNeg x1))).toInt32), u5.1, u5.2.1, u5.2.2.1, u5.2.2.2.1, u5.2.2.2.2))))
def mX8_judged (zfr : Nat → Int32) (zto : Nat → Int32) (zov : Nat → Int32) (zc : Nat → Int32) (x1 : Int32) : Option (Int32) := if x1 < 0 ∨ 24 ≤ Int32.toNatClampNeg x1 then none else
 if (zc (Int32.toNatClampNeg x1)) = (0 : Int32) then
 some ((0 : Int32)) else
 if (zov (Int32.toNatClampNeg x1)) = (0 : Int32) then
 some ((1 : Int32)) else
 (mX8_many zfr zto).bind (fun u4 =>
 if (zov (Int32.toNatClampNeg x1)) = u4 then
 some ((3 : Int32)) else
 some ((2 : Int32)))
def mX8_judge (zn : Int32) (zm : Int32) (zj : Int32) (zf : Int32) (zr : Int32) (zw : Nat → Int32) (zs : Nat → Int32) (zfr : Nat → Int32) (zto : Nat → Int32) (zk : Nat → Int32) (zt : Nat → Int32) (za : Nat → Int32) (zb : Nat → Int32) (zl : Nat → Int32) (zv : Nat → Int64) (zo : Nat → Int32) (zu : Nat → Int32) (zov : Nat → Int32) (ztu : Nat → Int32) (zsh : Nat → Int32) (zle : Nat → Int64) (zmo : Nat → Int64) (zc : Nat → Int32) (x1 : Int32) : Option (Int32 × (Int32) × (Int32) × (Int32) × (Nat → Int32) × (Nat → Int64) × (Nat → Int32) × (Nat → Int32) × (Nat → Int32) × (Nat → Int32) × (Nat → Int32) × (Nat → Int64) × (Nat → Int64) × (Nat → Int32)) := (mX8_isStep zn x1).bind (fun u1 =>
 if u1 = (0 : Int32) then
 some ((-1 : Int32), zj, zf, zr, zl, zv, zo, zu, zov, ztu, zsh, zle, zmo, zc) else
 (mX8_spans zn zm zj zw zs zfr zto zk zt za zb zl zle zmo zc).bind (fun u3 =>
 (mX8_all zn zm u3.1 zf zr zw zs zfr zto zk zt za zb u3.2.1 zv zo zu zov ztu zsh).bind (fun u4 =>
 (mX8_judged zfr zto u4.2.2.2.2.2.2.2.1 u3.2.2.2.2 x1).bind (fun u5 =>
 some (u5, u4.1, u4.2.1, u4.2.2.1, u4.2.2.2.1, u4.2.2.2.2.1, u4.2.2.2.2.2.1, u4.2.2.2.2.2.2.1, u4.2.2.2.2.2.2.2.1, u4.2.2.2.2.2.2.2.2.1, u4.2.2.2.2.2.2.2.2.2, u3.2.2.1, u3.2.2.2.1, u3.2.2.2.2)))))
def mX8_over (zn : Int32) (zm : Int32) (zj : Int32) (zf : Int32) (zr : Int32) (zw : Nat → Int32) (zs : Nat → Int32) (zfr : Nat → Int32) (zto : Nat → Int32) (zk : Nat → Int32) (zt : Nat → Int32) (za : Nat → Int32) (zb : Nat → Int32) (zl : Nat → Int32) (zv : Nat → Int64) (zo : Nat → Int32) (zu : Nat → Int32) (zov : Nat → Int32) (ztu : Nat → Int32) (zsh : Nat → Int32) (x1 : Int32) : Option (Int32 × (Int32) × (Int32) × (Int32) × (Nat → Int32) × (Nat → Int64) × (Nat → Int32) × (Nat → Int32) × (Nat → Int32) × (Nat → Int32) × (Nat → Int32)) := (mX8_isStep zn x1).bind (fun u1 =>
 if u1 = (0 : Int32) then
 some ((-1 : Int32), zj, zf, zr, zl, zv, zo, zu, zov, ztu, zsh) else
 (mX8_all zn zm zj zf zr zw zs zfr zto zk zt za zb zl zv zo zu zov ztu zsh).bind (fun u3 =>
 if x1 < 0 ∨ 24 ≤ Int32.toNatClampNeg x1 then none else
 some ((u3.2.2.2.2.2.2.2.1 (Int32.toNatClampNeg x1)), u3.1, u3.2.1, u3.2.2.1, u3.2.2.2.1, u3.2.2.2.2.1, u3.2.2.2.2.2.1, u3.2.2.2.2.2.2.1, u3.2.2.2.2.2.2.2.1, u3.2.2.2.2.2.2.2.2.1, u3.2.2.2.2.2.2.2.2.2)))
def mX8_shown (zn : Int32) (zm : Int32) (zj : Int32) (zf : Int32) (zr : Int32) (zw : Nat → Int32) (zs : Nat → Int32) (zfr : Nat → Int32) (zto : Nat → Int32) (zk : Nat → Int32) (zt : Nat → Int32) (za : Nat → Int32) (zb : Nat → Int32) (zl : Nat → Int32) (zv : Nat → Int64) (zo : Nat → Int32) (zu : Nat → Int32) (zov : Nat → Int32) (ztu : Nat → Int32) (zsh : Nat → Int32) (x1 : Int32) : Option (Int32 × (Int32) × (Int32) × (Int32) × (Nat → Int32) × (Nat → Int64) × (Nat → Int32) × (Nat → Int32) × (Nat → Int32) × (Nat → Int32) × (Nat → Int32)) := (mX8_isStep zn x1).bind (fun u1 =>
 if u1 = (0 : Int32) then
 some ((-1 : Int32), zj, zf, zr, zl, zv, zo, zu, zov, ztu, zsh) else
 (mX8_all zn zm zj zf zr zw zs zfr zto zk zt za zb zl zv zo zu zov ztu zsh).bind (fun u3 =>
 if x1 < 0 ∨ 24 ≤ Int32.toNatClampNeg x1 then none else
 some ((u3.2.2.2.2.2.2.2.2.2 (Int32.toNatClampNeg x1)), u3.1, u3.2.1, u3.2.2.1, u3.2.2.2.1, u3.2.2.2.2.1, u3.2.2.2.2.2.1, u3.2.2.2.2.2.2.1, u3.2.2.2.2.2.2.2.1, u3.2.2.2.2.2.2.2.2.1, u3.2.2.2.2.2.2.2.2.2)))
def mX8_turned (zn : Int32) (zm : Int32) (zj : Int32) (zf : Int32) (zr : Int32) (zw : Nat → Int32) (zs : Nat → Int32) (zfr : Nat → Int32) (zto : Nat → Int32) (zk : Nat → Int32) (zt : Nat → Int32) (za : Nat → Int32) (zb : Nat → Int32) (zl : Nat → Int32) (zv : Nat → Int64) (zo : Nat → Int32) (zu : Nat → Int32) (zov : Nat → Int32) (ztu : Nat → Int32) (zsh : Nat → Int32) (x1 : Int32) : Option (Int32 × (Int32) × (Int32) × (Int32) × (Nat → Int32) × (Nat → Int64) × (Nat → Int32) × (Nat → Int32) × (Nat → Int32) × (Nat → Int32) × (Nat → Int32)) := (mX8_isStep zn x1).bind (fun u1 =>
 if u1 = (0 : Int32) then
 some ((-1 : Int32), zj, zf, zr, zl, zv, zo, zu, zov, ztu, zsh) else
 if x1 < 0 ∨ 24 ≤ Int32.toNatClampNeg x1 then none else
 if (zk (Int32.toNatClampNeg x1)) = (7 : Int32) then
 (mX8_all zn zm zj zf zr zw zs zfr zto zk zt za zb zl zv zo zu zov ztu zsh).bind (fun u5 =>
 some ((u5.2.2.2.2.2.2.2.2.1 (Int32.toNatClampNeg x1)), u5.1, u5.2.1, u5.2.2.1, u5.2.2.2.1, u5.2.2.2.2.1, u5.2.2.2.2.2.1, u5.2.2.2.2.2.2.1, u5.2.2.2.2.2.2.2.1, u5.2.2.2.2.2.2.2.2.1, u5.2.2.2.2.2.2.2.2.2)) else
 some ((-1 : Int32), zj, zf, zr, zl, zv, zo, zu, zov, ztu, zsh))
def mX8_given (zv : Nat → Int64) (zlo : Nat → Int64) (zhi : Nat → Int64) (x1 : Int32) (x2 : Int64) : Option (Int32 × (Nat → Int64) × (Nat → Int64) × (Nat → Int64)) := if x1 < 0 ∨ 6 ≤ Int32.toNatClampNeg x1 then none else
 (mX8_isFar x2).bind (fun u2 =>
 if u2 = (0 : Int32) then
 some ((1 : Int32), (vp_updL zv (Int32.toNatClampNeg x1) x2), (vp_updL zlo (Int32.toNatClampNeg x1) (if x2 < (zlo (Int32.toNatClampNeg x1)) then x2 else (zlo (Int32.toNatClampNeg x1)))), (vp_updL zhi (Int32.toNatClampNeg x1) (if x2 < (zhi (Int32.toNatClampNeg x1)) then (zhi (Int32.toNatClampNeg x1)) else x2))) else
 some ((0 : Int32), (vp_updL zv (Int32.toNatClampNeg x1) x2), (vp_updL zlo (Int32.toNatClampNeg x1) (if x2 < (zlo (Int32.toNatClampNeg x1)) then x2 else (zlo (Int32.toNatClampNeg x1)))), (vp_updL zhi (Int32.toNatClampNeg x1) (if x2 < (zhi (Int32.toNatClampNeg x1)) then (zhi (Int32.toNatClampNeg x1)) else x2))))
def mX8_isNear_L104 (zj : Int32) (zw : Nat → Int32) (zs : Nat → Int32) (zk : Nat → Int32) (zt : Nat → Int32) (za : Nat → Int32) (zb : Nat → Int32) (zl : Nat → Int32) (k45 : (Nat → Int64) → (Nat → Int64) → (Nat → Int64) → (Int32) → Option (Int32 × (Nat → Int64) × (Nat → Int64) × (Nat → Int64))) (zv : Nat → Int64) (zlo : Nat → Int64) (zhi : Nat → Int64) (x3 : Int32) (x4 : Int32) : Option (Int32 × (Nat → Int64) × (Nat → Int64) × (Nat → Int64)) := if x4 < 0 ∨ 24 ≤ Int32.toNatClampNeg x4 then none else
 if (zk (Int32.toNatClampNeg x4)) = (7 : Int32) then
 if (za (Int32.toNatClampNeg x4)) < 0 ∨ 6 ≤ Int32.toNatClampNeg (za (Int32.toNatClampNeg x4)) then none else
 if (zb (Int32.toNatClampNeg x4)) < 0 ∨ 6 ≤ Int32.toNatClampNeg (zb (Int32.toNatClampNeg x4)) then none else
 if (zv (Int32.toNatClampNeg (zb (Int32.toNatClampNeg x4)))) ≤ (zv (Int32.toNatClampNeg (za (Int32.toNatClampNeg x4)))) then
 (mX8_given zv zlo zhi (zt (Int32.toNatClampNeg x4)) (0 : Int64)).bind (fun u23 =>
 if u23.1 = (0 : Int32) then
 some ((0 : Int32), u23.2.1, u23.2.2.1, u23.2.2.2) else
 k45 u23.2.1 u23.2.2.1 u23.2.2.2 (x3 + (1 : Int32))) else
 (mX8_given zv zlo zhi (zt (Int32.toNatClampNeg x4)) (1 : Int64)).bind (fun u25 =>
 if u25.1 = (0 : Int32) then
 some ((0 : Int32), u25.2.1, u25.2.2.1, u25.2.2.2) else
 k45 u25.2.1 u25.2.2.1 u25.2.2.2 (x3 + (1 : Int32))) else
 (mX8_valueOf zw zs zk za zb zv x4).bind (fun u17 =>
 (mX8_given zv zlo zhi (zt (Int32.toNatClampNeg x4)) u17).bind (fun u18 =>
 if u18.1 = (0 : Int32) then
 some ((0 : Int32), u18.2.1, u18.2.2.1, u18.2.2.2) else
 k45 u18.2.1 u18.2.2.1 u18.2.2.2 (x3 + (1 : Int32))))
def mX8_isNear_L45 (zj : Int32) (zw : Nat → Int32) (zs : Nat → Int32) (zk : Nat → Int32) (zt : Nat → Int32) (za : Nat → Int32) (zb : Nat → Int32) (zl : Nat → Int32)  : Nat → (Nat → Int64) → (Nat → Int64) → (Nat → Int64) → (Int32) → Option (Int32 × (Nat → Int64) × (Nat → Int64) × (Nat → Int64))
 | 0, _, _, _, _ => none
 | n + 1, zv, zlo, zhi, x3 => if zj ≤ x3 then
 some ((1 : Int32), zv, zlo, zhi) else
 if x3 < 0 ∨ 288 ≤ Int32.toNatClampNeg x3 then none else
 if (zl (Int32.toNatClampNeg x3)) < 0 ∨ 24 ≤ Int32.toNatClampNeg (zl (Int32.toNatClampNeg x3)) then none else
 if (zk (Int32.toNatClampNeg (zl (Int32.toNatClampNeg x3)))) = (4 : Int32) then
 if (za (Int32.toNatClampNeg (zl (Int32.toNatClampNeg x3)))) < 0 ∨ 6 ≤ Int32.toNatClampNeg (za (Int32.toNatClampNeg (zl (Int32.toNatClampNeg x3)))) then none else
 if (zb (Int32.toNatClampNeg (zl (Int32.toNatClampNeg x3)))) < 0 ∨ 6 ≤ Int32.toNatClampNeg (zb (Int32.toNatClampNeg (zl (Int32.toNatClampNeg x3)))) then none else
 (mX8_isFarProduct (zv (Int32.toNatClampNeg (za (Int32.toNatClampNeg (zl (Int32.toNatClampNeg x3)))))) (zv (Int32.toNatClampNeg (zb (Int32.toNatClampNeg (zl (Int32.toNatClampNeg x3))))))).bind (fun u13 =>
 if u13 = (0 : Int32) then
 mX8_isNear_L104 zj zw zs zk zt za zb zl (mX8_isNear_L45 zj zw zs zk zt za zb zl n) zv zlo zhi x3 (zl (Int32.toNatClampNeg x3)) else
 some ((0 : Int32), zv, zlo, zhi)) else
 mX8_isNear_L104 zj zw zs zk zt za zb zl (mX8_isNear_L45 zj zw zs zk zt za zb zl n) zv zlo zhi x3 (zl (Int32.toNatClampNeg x3))
def mX8_isNear_L2 (zj : Int32) (zw : Nat → Int32) (zs : Nat → Int32) (zk : Nat → Int32) (zt : Nat → Int32) (za : Nat → Int32) (zb : Nat → Int32) (zl : Nat → Int32)  : Nat → (Nat → Int64) → (Nat → Int64) → (Nat → Int64) → (Int32) → (Int32) → (Int32) → Option (Int32 × (Nat → Int64) × (Nat → Int64) × (Nat → Int64))
 | 0, _, _, _, _, _, _ => none
 | n + 1, zv, zlo, zhi, x1, x2, x3 => if (6 : Int32) ≤ x3 then
 (mX8_given zv zlo zhi (0 : Int32) ((x1).toInt64)).bind (fun u2 =>
 if u2.1 = (0 : Int32) then
 some ((0 : Int32), u2.2.1, u2.2.2.1, u2.2.2.2) else
 (mX8_given u2.2.1 u2.2.2.1 u2.2.2.2 (1 : Int32) ((x2).toInt64)).bind (fun u4 =>
 if u4.1 = (0 : Int32) then
 some ((0 : Int32), u4.2.1, u4.2.2.1, u4.2.2.2) else
 mX8_isNear_L45 zj zw zs zk zt za zb zl FU u4.2.1 u4.2.2.1 u4.2.2.2 (0 : Int32))) else
 if x3 < 0 ∨ 6 ≤ Int32.toNatClampNeg x3 then none else
 mX8_isNear_L2 zj zw zs zk zt za zb zl n (vp_updL zv (Int32.toNatClampNeg x3) (0 : Int64)) zlo zhi x1 x2 (x3 + (1 : Int32))
def mX8_isNear (zj : Int32) (zw : Nat → Int32) (zs : Nat → Int32) (zk : Nat → Int32) (zt : Nat → Int32) (za : Nat → Int32) (zb : Nat → Int32) (zl : Nat → Int32) (zv : Nat → Int64) (zlo : Nat → Int64) (zhi : Nat → Int64) (x1 : Int32) (x2 : Int32) : Option (Int32 × (Nat → Int64) × (Nat → Int64) × (Nat → Int64)) := mX8_isNear_L2 zj zw zs zk zt za zb zl FU zv zlo zhi x1 x2 (0 : Int32)
def mX8_needs_L62 (zn : Int32) (zw : Nat → Int32) (zs : Nat → Int32) (zfr : Nat → Int32) (zto : Nat → Int32) (zk : Nat → Int32) (zt : Nat → Int32) (za : Nat → Int32) (zb : Nat → Int32) (k41 : (Int32) → (Nat → Int32) → (Nat → Int64) → (Nat → Int64) → (Nat → Int64) → (Int32) → (Int32) → Option (Int32 × (Int32) × (Nat → Int32) × (Nat → Int64) × (Nat → Int64) × (Nat → Int64))) : Nat → (Int32) → (Nat → Int32) → (Nat → Int64) → (Nat → Int64) → (Nat → Int64) → (Int32) → (Int32) → (Int32) → Option (Int32 × (Int32) × (Nat → Int32) × (Nat → Int64) × (Nat → Int64) × (Nat → Int64))
 | 0, _, _, _, _, _, _, _, _ => none
 | n + 1, zj, zl, zv, zlo, zhi, x1, x2, x3 => if (zto (Int32.toNatClampNeg (1 : Int32))) < x3 then
 k41 zj zl zv zlo zhi x1 (x2 + (1 : Int32)) else
 if x1 = (0 : Int32) then
 k41 zj zl zv zlo zhi x1 (x2 + (1 : Int32)) else
 (mX8_isNear zj zw zs zk zt za zb zl zv zlo zhi x2 x3).bind (fun u10 =>
 mX8_needs_L62 zn zw zs zfr zto zk zt za zb k41 n zj zl u10.2.1 u10.2.2.1 u10.2.2.2 u10.1 x2 (x3 + (1 : Int32)))
def mX8_needs_L41 (zn : Int32) (zw : Nat → Int32) (zs : Nat → Int32) (zfr : Nat → Int32) (zto : Nat → Int32) (zk : Nat → Int32) (zt : Nat → Int32) (za : Nat → Int32) (zb : Nat → Int32)  : Nat → (Int32) → (Nat → Int32) → (Nat → Int64) → (Nat → Int64) → (Nat → Int64) → (Int32) → (Int32) → Option (Int32 × (Int32) × (Nat → Int32) × (Nat → Int64) × (Nat → Int64) × (Nat → Int64))
 | 0, _, _, _, _, _, _, _ => none
 | n + 1, zj, zl, zv, zlo, zhi, x1, x2 => if (zto (Int32.toNatClampNeg (0 : Int32))) < x2 then
 if ¬ (x1 = 0 ∨ x1 = 1) then none else
 some (x1, zj, zl, zv, zlo, zhi) else
 if x1 = (0 : Int32) then
 if ¬ (x1 = 0 ∨ x1 = 1) then none else
 some (x1, zj, zl, zv, zlo, zhi) else
 mX8_needs_L62 zn zw zs zfr zto zk zt za zb (mX8_needs_L41 zn zw zs zfr zto zk zt za zb n) FU zj zl zv zlo zhi x1 x2 (zfr (Int32.toNatClampNeg (1 : Int32)))
def mX8_needs_L6 (zn : Int32) (zw : Nat → Int32) (zs : Nat → Int32) (zfr : Nat → Int32) (zto : Nat → Int32) (zk : Nat → Int32) (zt : Nat → Int32) (za : Nat → Int32) (zb : Nat → Int32)  : Nat → (Int32) → (Nat → Int32) → (Nat → Int64) → (Nat → Int64) → (Nat → Int64) → (Int32) → Option (Int32 × (Int32) × (Nat → Int32) × (Nat → Int64) × (Nat → Int64) × (Nat → Int64))
 | 0, _, _, _, _, _, _ => none
 | n + 1, zj, zl, zv, zlo, zhi, x1 => if (6 : Int32) ≤ x1 then
 mX8_needs_L41 zn zw zs zfr zto zk zt za zb FU zj zl zv zlo zhi (1 : Int32) (zfr (Int32.toNatClampNeg (0 : Int32))) else
 if x1 < 0 ∨ 6 ≤ Int32.toNatClampNeg x1 then none else
 mX8_needs_L6 zn zw zs zfr zto zk zt za zb n zj zl zv (vp_updL zlo (Int32.toNatClampNeg x1) (0 : Int64)) (vp_updL zhi (Int32.toNatClampNeg x1) (0 : Int64)) (x1 + (1 : Int32))
def mX8_needs (zn : Int32) (zj : Int32) (zw : Nat → Int32) (zs : Nat → Int32) (zfr : Nat → Int32) (zto : Nat → Int32) (zk : Nat → Int32) (zt : Nat → Int32) (za : Nat → Int32) (zb : Nat → Int32) (zl : Nat → Int32) (zv : Nat → Int64) (zlo : Nat → Int64) (zhi : Nat → Int64) : Option (Int32 × (Int32) × (Nat → Int32) × (Nat → Int64) × (Nat → Int64) × (Nat → Int64)) := (mX8_lays zn zj zk zb zl).bind (fun u1 =>
 mX8_needs_L6 zn zw zs zfr zto zk zt za zb FU u1.1 u1.2 zv zlo zhi (0 : Int32))
def mX8_needOf_L27 (zs : Nat → Int32) (zlo : Nat → Int64) (zhi : Nat → Int64) (k2 : (Int32) → (Int32) → Option (Int32)) (x1 : Int32) (x2 : Int32) (t0 : Int64) : Option (Int32) := if x1 < 0 ∨ 6 ≤ Int32.toNatClampNeg x1 then none else
 if (zs (Int32.toNatClampNeg x1)) = (0 : Int32) then
 if (zlo (Int32.toNatClampNeg x1)) < t0 then
 k2 x1 (x2 + (1 : Int32)) else
 if (((1 : Int64) <<< ((x2).toInt64 &&& 63)) - (1 : Int64)) < (zhi (Int32.toNatClampNeg x1)) then
 k2 x1 (x2 + (1 : Int32)) else
 some (x2) else
 if (zlo (Int32.toNatClampNeg x1)) < t0 then
 k2 x1 (x2 + (1 : Int32)) else
 if (((1 : Int64) <<< (((x2 - (1 : Int32))).toInt64 &&& 63)) - (1 : Int64)) < (zhi (Int32.toNatClampNeg x1)) then
 k2 x1 (x2 + (1 : Int32)) else
 some (x2)
def mX8_needOf_L2 (zs : Nat → Int32) (zlo : Nat → Int64) (zhi : Nat → Int64)  : Nat → (Int32) → (Int32) → Option (Int32)
 | 0, _, _ => none
 | n + 1, x1, x2 => if (31 : Int32) < x2 then
 some ((-1 : Int32)) else
 if x1 < 0 ∨ 6 ≤ Int32.toNatClampNeg x1 then none else
 if (zs (Int32.toNatClampNeg x1)) = (0 : Int32) then
 mX8_needOf_L27 zs zlo zhi (mX8_needOf_L2 zs zlo zhi n) x1 x2 (0 : Int64) else
 mX8_needOf_L27 zs zlo zhi (mX8_needOf_L2 zs zlo zhi n) x1 x2 (-((1 : Int64) <<< (((x2 - (1 : Int32))).toInt64 &&& 63)))
def mX8_needOf (zs : Nat → Int32) (zlo : Nat → Int64) (zhi : Nat → Int64) (x1 : Int32) : Option (Int32) := mX8_needOf_L2 zs zlo zhi FU x1 (2 : Int32)
def mX8_need (zn : Int32) (zj : Int32) (zw : Nat → Int32) (zs : Nat → Int32) (zfr : Nat → Int32) (zto : Nat → Int32) (zk : Nat → Int32) (zt : Nat → Int32) (za : Nat → Int32) (zb : Nat → Int32) (zl : Nat → Int32) (zv : Nat → Int64) (zlo : Nat → Int64) (zhi : Nat → Int64) (x1 : Int32) : Option (Int32 × (Int32) × (Nat → Int32) × (Nat → Int64) × (Nat → Int64) × (Nat → Int64)) := (mX8_isName x1).bind (fun u1 =>
 if u1 = (0 : Int32) then
 some ((-1 : Int32), zj, zl, zv, zlo, zhi) else
 (mX8_needs zn zj zw zs zfr zto zk zt za zb zl zv zlo zhi).bind (fun u3 =>
 if u3.1 = (0 : Int32) then
 some ((-1 : Int32), u3.2.1, u3.2.2.1, u3.2.2.2.1, u3.2.2.2.2.1, u3.2.2.2.2.2) else
 (mX8_needOf zs u3.2.2.2.2.1 u3.2.2.2.2.2 x1).bind (fun u5 =>
 some (u5, u3.2.1, u3.2.2.1, u3.2.2.2.1, u3.2.2.2.2.1, u3.2.2.2.2.2))))
def mX8_price_L13 (zn : Int32) (zw : Nat → Int32) (zs : Nat → Int32) (zfr : Nat → Int32) (zto : Nat → Int32) (zk : Nat → Int32) (zt : Nat → Int32) (za : Nat → Int32) (zb : Nat → Int32)  : Nat → (Int32) → (Nat → Int32) → (Nat → Int64) → (Nat → Int64) → (Nat → Int64) → (Int32) → (Int32) → Option (Int32 × (Int32) × (Nat → Int32) × (Nat → Int64) × (Nat → Int64) × (Nat → Int64))
 | 0, _, _, _, _, _, _, _ => none
 | n + 1, zj, zl, zv, zlo, zhi, x1, x2 => if (6 : Int32) ≤ x2 then
 some (x1, zj, zl, zv, zlo, zhi) else
 (mX8_needOf zs zlo zhi x2).bind (fun u4 =>
 if u4 = (-1 : Int32) then
 some ((-1 : Int32), zj, zl, zv, zlo, zhi) else
 if x2 < 0 ∨ 6 ≤ Int32.toNatClampNeg x2 then none else
 mX8_price_L13 zn zw zs zfr zto zk zt za zb n zj zl zv zlo zhi (x1 + (if (0 : Int32) < (u4 - (zw (Int32.toNatClampNeg x2))) then (u4 - (zw (Int32.toNatClampNeg x2))) else (0 : Int32))) (x2 + (1 : Int32)))
def mX8_price (zn : Int32) (zj : Int32) (zw : Nat → Int32) (zs : Nat → Int32) (zfr : Nat → Int32) (zto : Nat → Int32) (zk : Nat → Int32) (zt : Nat → Int32) (za : Nat → Int32) (zb : Nat → Int32) (zl : Nat → Int32) (zv : Nat → Int64) (zlo : Nat → Int64) (zhi : Nat → Int64) : Option (Int32 × (Int32) × (Nat → Int32) × (Nat → Int64) × (Nat → Int64) × (Nat → Int64)) := (mX8_needs zn zj zw zs zfr zto zk zt za zb zl zv zlo zhi).bind (fun u1 =>
 if u1.1 = (0 : Int32) then
 some ((-1 : Int32), u1.2.1, u1.2.2.1, u1.2.2.2.1, u1.2.2.2.2.1, u1.2.2.2.2.2) else
 mX8_price_L13 zn zw zs zfr zto zk zt za zb FU u1.2.1 u1.2.2.1 u1.2.2.2.1 u1.2.2.2.2.1 u1.2.2.2.2.2 (0 : Int32) (0 : Int32))
def mX8_mend_L14 (zn : Int32) (zs : Nat → Int32) (zfr : Nat → Int32) (zto : Nat → Int32) (zk : Nat → Int32) (zt : Nat → Int32) (za : Nat → Int32) (zb : Nat → Int32)  : Nat → (Int32) → (Nat → Int32) → (Nat → Int32) → (Nat → Int64) → (Nat → Int64) → (Nat → Int64) → (Int32) → (Int32) → Option (Int32 × (Int32) × (Nat → Int32) × (Nat → Int32) × (Nat → Int64) × (Nat → Int64) × (Nat → Int64))
 | 0, _, _, _, _, _, _, _, _ => none
 | n + 1, zj, zw, zl, zv, zlo, zhi, x1, x2 => if (6 : Int32) ≤ x2 then
 some (x1, zj, zw, zl, zv, zlo, zhi) else
 (mX8_needOf zs zlo zhi x2).bind (fun u4 =>
 if x2 < 0 ∨ 6 ≤ Int32.toNatClampNeg x2 then none else
 if (zw (Int32.toNatClampNeg x2)) < u4 then
 mX8_mend_L14 zn zs zfr zto zk zt za zb n zj (upd zw (Int32.toNatClampNeg x2) u4) zl zv zlo zhi (x1 + (1 : Int32)) (x2 + (1 : Int32)) else
 mX8_mend_L14 zn zs zfr zto zk zt za zb n zj zw zl zv zlo zhi x1 (x2 + (1 : Int32)))
def mX8_mend (zn : Int32) (zj : Int32) (zw : Nat → Int32) (zs : Nat → Int32) (zfr : Nat → Int32) (zto : Nat → Int32) (zk : Nat → Int32) (zt : Nat → Int32) (za : Nat → Int32) (zb : Nat → Int32) (zl : Nat → Int32) (zv : Nat → Int64) (zlo : Nat → Int64) (zhi : Nat → Int64) : Option (Int32 × (Int32) × (Nat → Int32) × (Nat → Int32) × (Nat → Int64) × (Nat → Int64) × (Nat → Int64)) := (mX8_price zn zj zw zs zfr zto zk zt za zb zl zv zlo zhi).bind (fun u1 =>
 if u1.1 = (-1 : Int32) then
 some ((-1 : Int32), u1.2.1, zw, u1.2.2.1, u1.2.2.2.1, u1.2.2.2.2.1, u1.2.2.2.2.2) else
 mX8_mend_L14 zn zs zfr zto zk zt za zb FU u1.2.1 zw u1.2.2.1 u1.2.2.2.1 u1.2.2.2.2.1 u1.2.2.2.2.2 (0 : Int32) (0 : Int32))
def mX8_mean (zn : Int32) (zq : Nat → Int32) (x1 : Int32) (x2 : Int32) : Option (Int32 × (Nat → Int32)) := (mX8_isStep zn x1).bind (fun u1 =>
 if u1 = (0 : Int32) then
 some ((0 : Int32), zq) else
 if x1 < 0 ∨ 24 ≤ Int32.toNatClampNeg x1 then none else
 if (zq (Int32.toNatClampNeg x1)) = x2 then
 some ((0 : Int32), zq) else
 some ((1 : Int32), (upd zq (Int32.toNatClampNeg x1) (vp_nar .boolean x2))))
def mX8_listed_L50 (zn : Int32) (zm : Int32) (zw : Nat → Int32) (zs : Nat → Int32) (zfr : Nat → Int32) (zto : Nat → Int32) (zk : Nat → Int32) (zt : Nat → Int32) (za : Nat → Int32) (zb : Nat → Int32) (zq : Nat → Int32) (k16 : (Int32) → (Int32) → (Int32) → (Nat → Int32) → (Nat → Int64) → (Nat → Int32) → (Nat → Int32) → (Nat → Int32) → (Nat → Int32) → (Nat → Int32) → (Nat → Int64) → (Nat → Int64) → (Nat → Int32) → (Int32) → (Int32) → Option (Int32 × (Int32) × (Int32) × (Int32) × (Nat → Int32) × (Nat → Int64) × (Nat → Int32) × (Nat → Int32) × (Nat → Int32) × (Nat → Int32) × (Nat → Int32) × (Nat → Int64) × (Nat → Int64) × (Nat → Int32))) : Nat → (Int32) → (Int32) → (Int32) → (Nat → Int32) → (Nat → Int64) → (Nat → Int32) → (Nat → Int32) → (Nat → Int32) → (Nat → Int32) → (Nat → Int32) → (Nat → Int64) → (Nat → Int64) → (Nat → Int32) → (Int32) → (Int32) → (Int32) → (Int32) → Option (Int32 × (Int32) × (Int32) × (Int32) × (Nat → Int32) × (Nat → Int64) × (Nat → Int32) × (Nat → Int32) × (Nat → Int32) × (Nat → Int32) × (Nat → Int32) × (Nat → Int64) × (Nat → Int64) × (Nat → Int32))
 | 0, _, _, _, _, _, _, _, _, _, _, _, _, _, _, _, _, _ => none
 | n + 1, zj, zf, zr, zl, zv, zo, zu, zov, ztu, zsh, zle, zmo, zc, x1, x2, x3, x4 => if zn ≤ x4 then
 if x3 = x1 then
 some (x2, zj, zf, zr, zl, zv, zo, zu, zov, ztu, zsh, zle, zmo, zc) else
 k16 zj zf zr zl zv zo zu zov ztu zsh zle zmo zc x1 (x2 + (1 : Int32)) else
 if x4 = x2 then
 mX8_listed_L50 zn zm zw zs zfr zto zk zt za zb zq k16 n zj zf zr zl zv zo zu zov ztu zsh zle zmo zc x1 x2 x3 (x4 + (1 : Int32)) else
 (mX8_judged zfr zto zov zc x4).bind (fun u12 =>
 if u12 ≤ (1 : Int32) then
 mX8_listed_L50 zn zm zw zs zfr zto zk zt za zb zq k16 n zj zf zr zl zv zo zu zov ztu zsh zle zmo zc x1 x2 x3 (x4 + (1 : Int32)) else
 if x4 < 0 ∨ 24 ≤ Int32.toNatClampNeg x4 then none else
 if (zq (Int32.toNatClampNeg x4)) = (0 : Int32) then
 if x2 < 0 ∨ 24 ≤ Int32.toNatClampNeg x2 then none else
 if (zov (Int32.toNatClampNeg x2)) < (zov (Int32.toNatClampNeg x4)) then
 mX8_listed_L50 zn zm zw zs zfr zto zk zt za zb zq k16 n zj zf zr zl zv zo zu zov ztu zsh zle zmo zc x1 x2 (x3 + (1 : Int32)) (x4 + (1 : Int32)) else
 if (zov (Int32.toNatClampNeg x4)) = (zov (Int32.toNatClampNeg x2)) then
 if x2 ≤ x4 then
 mX8_listed_L50 zn zm zw zs zfr zto zk zt za zb zq k16 n zj zf zr zl zv zo zu zov ztu zsh zle zmo zc x1 x2 x3 (x4 + (1 : Int32)) else
 mX8_listed_L50 zn zm zw zs zfr zto zk zt za zb zq k16 n zj zf zr zl zv zo zu zov ztu zsh zle zmo zc x1 x2 (x3 + (1 : Int32)) (x4 + (1 : Int32)) else
 mX8_listed_L50 zn zm zw zs zfr zto zk zt za zb zq k16 n zj zf zr zl zv zo zu zov ztu zsh zle zmo zc x1 x2 x3 (x4 + (1 : Int32)) else
 mX8_listed_L50 zn zm zw zs zfr zto zk zt za zb zq k16 n zj zf zr zl zv zo zu zov ztu zsh zle zmo zc x1 x2 x3 (x4 + (1 : Int32)))
def mX8_listed_L16 (zn : Int32) (zm : Int32) (zw : Nat → Int32) (zs : Nat → Int32) (zfr : Nat → Int32) (zto : Nat → Int32) (zk : Nat → Int32) (zt : Nat → Int32) (za : Nat → Int32) (zb : Nat → Int32) (zq : Nat → Int32)  : Nat → (Int32) → (Int32) → (Int32) → (Nat → Int32) → (Nat → Int64) → (Nat → Int32) → (Nat → Int32) → (Nat → Int32) → (Nat → Int32) → (Nat → Int32) → (Nat → Int64) → (Nat → Int64) → (Nat → Int32) → (Int32) → (Int32) → Option (Int32 × (Int32) × (Int32) × (Int32) × (Nat → Int32) × (Nat → Int64) × (Nat → Int32) × (Nat → Int32) × (Nat → Int32) × (Nat → Int32) × (Nat → Int32) × (Nat → Int64) × (Nat → Int64) × (Nat → Int32))
 | 0, _, _, _, _, _, _, _, _, _, _, _, _, _, _, _ => none
 | n + 1, zj, zf, zr, zl, zv, zo, zu, zov, ztu, zsh, zle, zmo, zc, x1, x2 => if zn ≤ x2 then
 some ((-1 : Int32), zj, zf, zr, zl, zv, zo, zu, zov, ztu, zsh, zle, zmo, zc) else
 (mX8_judged zfr zto zov zc x2).bind (fun u5 =>
 if u5 < (2 : Int32) then
 mX8_listed_L16 zn zm zw zs zfr zto zk zt za zb zq n zj zf zr zl zv zo zu zov ztu zsh zle zmo zc x1 (x2 + (1 : Int32)) else
 if x2 < 0 ∨ 24 ≤ Int32.toNatClampNeg x2 then none else
 if (zq (Int32.toNatClampNeg x2)) = (0 : Int32) then
 mX8_listed_L50 zn zm zw zs zfr zto zk zt za zb zq (mX8_listed_L16 zn zm zw zs zfr zto zk zt za zb zq n) FU zj zf zr zl zv zo zu zov ztu zsh zle zmo zc x1 x2 (0 : Int32) (0 : Int32) else
 mX8_listed_L16 zn zm zw zs zfr zto zk zt za zb zq n zj zf zr zl zv zo zu zov ztu zsh zle zmo zc x1 (x2 + (1 : Int32)))
def mX8_listed (zn : Int32) (zm : Int32) (zj : Int32) (zf : Int32) (zr : Int32) (zw : Nat → Int32) (zs : Nat → Int32) (zfr : Nat → Int32) (zto : Nat → Int32) (zk : Nat → Int32) (zt : Nat → Int32) (za : Nat → Int32) (zb : Nat → Int32) (zq : Nat → Int32) (zl : Nat → Int32) (zv : Nat → Int64) (zo : Nat → Int32) (zu : Nat → Int32) (zov : Nat → Int32) (ztu : Nat → Int32) (zsh : Nat → Int32) (zle : Nat → Int64) (zmo : Nat → Int64) (zc : Nat → Int32) (x1 : Int32) : Option (Int32 × (Int32) × (Int32) × (Int32) × (Nat → Int32) × (Nat → Int64) × (Nat → Int32) × (Nat → Int32) × (Nat → Int32) × (Nat → Int32) × (Nat → Int32) × (Nat → Int64) × (Nat → Int64) × (Nat → Int32)) := if (0 : Int32) ≤ x1 then
 (mX8_spans zn zm zj zw zs zfr zto zk zt za zb zl zle zmo zc).bind (fun u2 =>
 (mX8_all zn zm u2.1 zf zr zw zs zfr zto zk zt za zb u2.2.1 zv zo zu zov ztu zsh).bind (fun u3 =>
 mX8_listed_L16 zn zm zw zs zfr zto zk zt za zb zq FU u3.1 u3.2.1 u3.2.2.1 u3.2.2.2.1 u3.2.2.2.2.1 u3.2.2.2.2.2.1 u3.2.2.2.2.2.2.1 u3.2.2.2.2.2.2.2.1 u3.2.2.2.2.2.2.2.2.1 u3.2.2.2.2.2.2.2.2.2 u2.2.2.1 u2.2.2.2.1 u2.2.2.2.2 x1 (0 : Int32))) else
 some ((-1 : Int32), zj, zf, zr, zl, zv, zo, zu, zov, ztu, zsh, zle, zmo, zc)
def mX8_count_L115 (zn : Int32) (zm : Int32) (zw : Nat → Int32) (zs : Nat → Int32) (zfr : Nat → Int32) (zto : Nat → Int32) (zk : Nat → Int32) (zt : Nat → Int32) (za : Nat → Int32) (zb : Nat → Int32) (zq : Nat → Int32)  : Nat → (Int32) → (Int32) → (Int32) → (Nat → Int32) → (Nat → Int64) → (Nat → Int32) → (Nat → Int32) → (Nat → Int32) → (Nat → Int32) → (Nat → Int32) → (Int32) → (Int32) → Option (Int32 × (Int32) × (Int32) × (Int32) × (Nat → Int32) × (Nat → Int64) × (Nat → Int32) × (Nat → Int32) × (Nat → Int32) × (Nat → Int32) × (Nat → Int32))
 | 0, _, _, _, _, _, _, _, _, _, _, _, _ => none
 | n + 1, zj, zf, zr, zl, zv, zo, zu, zov, ztu, zsh, x2, x3 => if zn ≤ x3 then
 some (x2, zj, zf, zr, zl, zv, zo, zu, zov, ztu, zsh) else
 if x3 < 0 ∨ 24 ≤ Int32.toNatClampNeg x3 then none else
 if (zq (Int32.toNatClampNeg x3)) = (0 : Int32) then
 mX8_count_L115 zn zm zw zs zfr zto zk zt za zb zq n zj zf zr zl zv zo zu zov ztu zsh (x2 + (0 : Int32)) (x3 + (1 : Int32)) else
 mX8_count_L115 zn zm zw zs zfr zto zk zt za zb zq n zj zf zr zl zv zo zu zov ztu zsh (x2 + (1 : Int32)) (x3 + (1 : Int32))
def mX8_count (zn : Int32) (zm : Int32) (zj : Int32) (zf : Int32) (zr : Int32) (zw : Nat → Int32) (zs : Nat → Int32) (zfr : Nat → Int32) (zto : Nat → Int32) (zk : Nat → Int32) (zt : Nat → Int32) (za : Nat → Int32) (zb : Nat → Int32) (zq : Nat → Int32) (zl : Nat → Int32) (zv : Nat → Int64) (zo : Nat → Int32) (zu : Nat → Int32) (zov : Nat → Int32) (ztu : Nat → Int32) (zsh : Nat → Int32) (x1 : Int32) : Option (Int32 × (Int32) × (Int32) × (Int32) × (Nat → Int32) × (Nat → Int64) × (Nat → Int32) × (Nat → Int32) × (Nat → Int32) × (Nat → Int32) × (Nat → Int32)) := (mX8_in ((x1).toInt64) (10 : Int64) (15 : Int64)).bind (fun u1 =>
 if u1 = (0 : Int32) then
 (mX8_in ((x1).toInt64) (20 : Int64) (25 : Int64)).bind (fun u3 =>
 if u3 = (0 : Int32) then
 if x1 = (0 : Int32) then
 some (zn, zj, zf, zr, zl, zv, zo, zu, zov, ztu, zsh) else
 if x1 = (1 : Int32) then
 (mX8_many zfr zto).bind (fun u7 =>
 some (u7, zj, zf, zr, zl, zv, zo, zu, zov, ztu, zsh)) else
 if x1 = (2 : Int32) then
 (mX8_all zn zm zj zf zr zw zs zfr zto zk zt za zb zl zv zo zu zov ztu zsh).bind (fun u9 =>
 some (u9.2.2.1, u9.1, u9.2.1, u9.2.2.1, u9.2.2.2.1, u9.2.2.2.2.1, u9.2.2.2.2.2.1, u9.2.2.2.2.2.2.1, u9.2.2.2.2.2.2.2.1, u9.2.2.2.2.2.2.2.2.1, u9.2.2.2.2.2.2.2.2.2)) else
 if x1 = (3 : Int32) then
 mX8_count_L115 zn zm zw zs zfr zto zk zt za zb zq FU zj zf zr zl zv zo zu zov ztu zsh (0 : Int32) (0 : Int32) else
 if x1 = (4 : Int32) then
 some (zm, zj, zf, zr, zl, zv, zo, zu, zov, ztu, zsh) else
 some ((-1 : Int32), zj, zf, zr, zl, zv, zo, zu, zov, ztu, zsh) else
 if (x1 - (20 : Int32)) < 0 ∨ 6 ≤ Int32.toNatClampNeg (x1 - (20 : Int32)) then none else
 if (zs (Int32.toNatClampNeg (x1 - (20 : Int32)))) = (0 : Int32) then
 some ((0 : Int32), zj, zf, zr, zl, zv, zo, zu, zov, ztu, zsh) else
 some ((1 : Int32), zj, zf, zr, zl, zv, zo, zu, zov, ztu, zsh)) else
 if (x1 - (10 : Int32)) < 0 ∨ 6 ≤ Int32.toNatClampNeg (x1 - (10 : Int32)) then none else
 some ((zw (Int32.toNatClampNeg (x1 - (10 : Int32)))), zj, zf, zr, zl, zv, zo, zu, zov, ztu, zsh))
def mX1_tellN (wd : Nat → Int32) (sg : Nat → Int32) (lw : Nat → Int64) (hg : Nat → Int64) (x1 : Int32) (x2 : Int32) (x3 : Int32) : Option ((Nat → Int32) × (Nat → Int32) × (Nat → Int64) × (Nat → Int64)) := if x1 < 0 ∨ 6 ≤ Int32.toNatClampNeg x1 then none else
 (mX7_leastOf x2 x3).bind (fun u2 =>
 (mX7_greatestOf x2 x3).bind (fun u3 =>
 some ((upd wd (Int32.toNatClampNeg x1) x2), (upd sg (Int32.toNatClampNeg x1) (vp_nar .boolean x3)), (vp_updL lw (Int32.toNatClampNeg x1) u2), (vp_updL hg (Int32.toNatClampNeg x1) u3))))
