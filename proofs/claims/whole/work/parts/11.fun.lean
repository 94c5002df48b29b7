/-! the methods as functions (written by wip/whole/gen/spec.py) -/
def FU : Nat := 5000
/-- TradeTests.isBelow -/
def sp_1 (x1 x2 : Int32) (σ : St) : MR := (if x1 < 0 then mb ((0 : Int32) = 0 ∨ (0 : Int32) = 1) (rt 0 σ) else (if x2 ≤ x1 then mb ((0 : Int32) = 0 ∨ (0 : Int32) = 1) (rt 0 σ) else mb ((1 : Int32) = 0 ∨ (1 : Int32) = 1) (rt 1 σ)))
/-- TradeTests.finding -/
def sp_2 (x1 : Int32) (σ : St) : MR := mb (vp_in x1 6) (mb (vp_in x1 6) (rt ((-1000000 : Int32) - x1) (up σ 14 (x1).toNatClampNeg ((σ 14 (x1).toNatClampNeg) + 1))))
/-- TradeTests$Vehicles.add -/
def sp_3 (x1 x2 x3 : Int32) (σ : St) : MR := mb (vp_in (σ 1 3) 24) (mb (vp_in (σ 1 3) 24) (mb (vp_in (σ 1 3) 24) (rt (((σ 1 3) + 1) - 1) (up (up (up (up σ 15 (σ 1 3).toNatClampNeg x1) 16 (σ 1 3).toNatClampNeg x2) 17 (σ 1 3).toNatClampNeg x3) 1 3 ((σ 1 3) + 1)))))
/-- TradeTests.isUnder -/
def sp_5 (x1 x2 : Int32) (σ : St) : MR := (if x1 = x2 then mb ((1 : Int32) = 0 ∨ (1 : Int32) = 1) (rt 1 σ) else (if x2 = 0 then mb ((1 : Int32) = 0 ∨ (1 : Int32) = 1) (rt 1 σ) else (if x2 = 1 then (if x1 = 2 then mb ((1 : Int32) = 0 ∨ (1 : Int32) = 1) (rt 1 σ) else mb ((0 : Int32) = 0 ∨ (0 : Int32) = 1) (rt 0 σ)) else mb ((0 : Int32) = 0 ∨ (0 : Int32) = 1) (rt 0 σ))))
/-- TradeTests$Vehicles.dueDays -/
def sp_6 (x1 : Int32) (σ : St) : MR := mb (vp_in x1 24) (mb (vp_in (σ 15 (x1).toNatClampNeg) 4) (rt ((sV 0).getD (σ 15 (x1).toNatClampNeg).toNatClampNeg 0) σ))
/-- TradeTests$Trade.addGarage -/
def sp_8 (x1 x2 : Int32) (σ : St) : MR := mb (vp_in (σ 2 2) 6) (mb (vp_in (σ 2 2) 6) (rt (((σ 2 2) + 1) - 1) (up (up (up σ 18 (σ 2 2).toNatClampNeg x1) 19 (σ 2 2).toNatClampNeg x2) 2 2 ((σ 2 2) + 1))))
/-- TradeTests$Trade.addTester -/
def sp_10 (x1 : Int32) (σ : St) : MR := mb (vp_in (σ 2 4) 8) (rt (((σ 2 4) + 1) - 1) (up (up σ 20 (σ 2 4).toNatClampNeg x1) 2 4 ((σ 2 4) + 1)))
/-- TradeTests$Trade.lastMoveDay -/
def lp_12_4 : Nat → Int32 → Int32 → Int32 → St → MR
  | 0, _, _, _, _ => bad
  | n + 1, v1, v2, v3, σ => (if (σ 2 8) ≤ v3 then rt v2 σ else mb (vp_in v3 30) ((if (σ 21 (v3).toNatClampNeg) = v1 then mb (vp_in v3 30) (lp_12_4 n v1 (σ 23 (v3).toNatClampNeg) (v3 + 1) σ) else lp_12_4 n v1 v2 (v3 + 1) σ)))
def sp_12 (x1 : Int32) (σ : St) : MR := lp_12_4 FU x1 0 0 σ
/-- TradeTests$Trade.addMove -/
def sp_13 (x1 x2 x3 : Int32) (σ : St) : MR := mb (vp_in (σ 2 8) 30) (mb (vp_in (σ 2 8) 30) (mb (vp_in (σ 2 8) 30) (rt 0 (up (up (up (up σ 21 (σ 2 8).toNatClampNeg x1) 22 (σ 2 8).toNatClampNeg x2) 23 (σ 2 8).toNatClampNeg x3) 2 8 ((σ 2 8) + 1)))))
/-- TradeTests$Trade.garageOn -/
def lp_14_10 : Nat → Int32 → Int32 → Int32 → Int32 → St → MR
  | 0, _, _, _, _, _ => bad
  | n + 1, v1, v2, v3, v4, σ => (if (σ 2 8) ≤ v4 then rt v3 σ else mb (vp_in v4 30) ((if (σ 21 (v4).toNatClampNeg) = v1 then mb (vp_in v4 30) ((if v2 < (σ 23 (v4).toNatClampNeg) then lp_14_10 n v1 v2 v3 (v4 + 1) σ else mb (vp_in v4 30) (lp_14_10 n v1 v2 (σ 22 (v4).toNatClampNeg) (v4 + 1) σ))) else lp_14_10 n v1 v2 v3 (v4 + 1) σ)))
def sp_14 (x1 x2 : Int32) (σ : St) : MR := mb (vp_in x1 8) (lp_14_10 FU x1 x2 (σ 20 (x1).toNatClampNeg) 0 σ)
/-- TradeTests.isWho -/
def sp_17 (x1 : Int32) (σ : St) : MR := (if x1 < 0 then mb ((0 : Int32) = 0 ∨ (0 : Int32) = 1) (rt 0 σ) else mb (¬ (100 : Int32) = 0) ((if (σ 1 3) ≤ (x1 / 100) then mb ((0 : Int32) = 0 ∨ (0 : Int32) = 1) (rt 0 σ) else mb (¬ (100 : Int32) = 0) ((if (σ 2 4) ≤ (x1 - x1 / 100 * 100) then mb ((0 : Int32) = 0 ∨ (0 : Int32) = 1) (rt 0 σ) else mb ((1 : Int32) = 0 ∨ (1 : Int32) = 1) (rt 1 σ))))))
/-- TradeTests$Tests.lastDay -/
def sp_19 (σ : St) : MR := (if (σ 3 14) ≤ 0 then rt 0 σ else mb (vp_in ((σ 3 14) - 1) 80) (rt (σ 26 ((σ 3 14) - 1).toNatClampNeg) σ))
/-- TradeTests.isHow -/
def sp_20 (x1 x2 : Int32) (σ : St) : MR := (if x2 < 0 then mb ((0 : Int32) = 0 ∨ (0 : Int32) = 1) (rt 0 σ) else mb (¬ (1000 : Int32) = 0) ((if (x2 - x2 / 1000 * 1000) < 512 then mb (¬ (1000 : Int32) = 0) ((if (x2 / 1000) < 1 then mb ((0 : Int32) = 0 ∨ (0 : Int32) = 1) (rt 0 σ) else (if 240 < (x2 / 1000) then mb ((0 : Int32) = 0 ∨ (0 : Int32) = 1) (rt 0 σ) else mb (¬ (10000 : Int32) = 0) ((if 1440 < ((x1 / 10000) + (x2 / 1000)) then mb ((0 : Int32) = 0 ∨ (0 : Int32) = 1) (rt 0 σ) else mb ((1 : Int32) = 0 ∨ (1 : Int32) = 1) (rt 1 σ)))))) else mb ((0 : Int32) = 0 ∨ (0 : Int32) = 1) (rt 0 σ))))
/-- TradeTests$Tests.add -/
def sp_22 (x1 x2 x3 x4 x5 : Int32) (σ : St) : MR := mb (¬ (100 : Int32) = 0) (mb (vp_in (σ 3 14) 80) (mb (¬ (100 : Int32) = 0) (mb (vp_in (σ 3 14) 80) (mb (¬ (10000 : Int32) = 0) (mb (vp_in (σ 3 14) 80) (mb (¬ (10000 : Int32) = 0) (mb (vp_in (σ 3 14) 80) (mb (¬ (1000 : Int32) = 0) (mb (vp_in (σ 3 14) 80) (mb (vp_in (σ 3 14) 80) (mb (¬ (1000 : Int32) = 0) (mb (vp_in (σ 3 14) 80) (mb (¬ (1000 : Int32) = 0) (mb (vp_in (σ 3 14) 80) (mb (¬ (1000 : Int32) = 0) (mb (¬ (256 : Int32) = 0) (mb (vp_in (σ 3 14) 80) (mb (¬ (1000 : Int32) = 0) (mb (¬ (256 : Int32) = 0) (mb (vp_in (σ 3 14) 80) (rt (((σ 3 14) + 1) - 1) (up (up (up (up (up (up (up (up (up (up (up σ 24 (σ 3 14).toNatClampNeg (x1 / 100)) 25 (σ 3 14).toNatClampNeg (x1 - x1 / 100 * 100)) 26 (σ 3 14).toNatClampNeg (x2 - x2 / 10000 * 10000)) 27 (σ 3 14).toNatClampNeg (x2 / 10000)) 28 (σ 3 14).toNatClampNeg (x3 / 1000)) 29 (σ 3 14).toNatClampNeg x4) 30 (σ 3 14).toNatClampNeg (x5 / 1000)) 31 (σ 3 14).toNatClampNeg (x5 - x5 / 1000 * 1000)) 32 (σ 3 14).toNatClampNeg ((x3 - x3 / 1000 * 1000) - (x3 - x3 / 1000 * 1000) / 256 * 256)) 33 (σ 3 14).toNatClampNeg ((x3 - x3 / 1000 * 1000) / 256)) 3 14 ((σ 3 14) + 1)))))))))))))))))))))))
/-- TradeTests$Tests.detail -/
def sp_25 (x1 x2 : Int32) (σ : St) : MR := (if x2 = 0 then mb (vp_in x1 80) (rt (σ 24 (x1).toNatClampNeg) σ) else (if x2 = 1 then mb (vp_in x1 80) (rt (σ 25 (x1).toNatClampNeg) σ) else (if x2 = 2 then mb (vp_in x1 80) (rt (σ 26 (x1).toNatClampNeg) σ) else (if x2 = 3 then mb (vp_in x1 80) (rt (σ 27 (x1).toNatClampNeg) σ) else (if x2 = 4 then mb (vp_in x1 80) (rt (σ 28 (x1).toNatClampNeg) σ) else (if x2 = 5 then mb (vp_in x1 80) (rt (σ 29 (x1).toNatClampNeg) σ) else (if x2 = 6 then mb (vp_in x1 80) (rt (σ 30 (x1).toNatClampNeg) σ) else (if x2 = 7 then mb (vp_in x1 80) (rt (σ 31 (x1).toNatClampNeg) σ) else (if x2 = 8 then mb (vp_in x1 80) (rt (σ 32 (x1).toNatClampNeg) σ) else mb (vp_in x1 80) (rt (σ 33 (x1).toNatClampNeg) σ))))))))))
/-- TradeTests$Texts.addByte -/
def sp_27 (x1 : Int32) (σ : St) : MR := mb (vp_in (σ 4 1) 60) (rt ((σ 4 1) + 1) (up (up σ 38 (σ 4 1).toNatClampNeg x1) 4 1 ((σ 4 1) + 1)))
/-- TradeTests$Texts.clearNext -/
def lp_30_23 : Nat → Int32 → St → MR
  | 0, _, _ => bad
  | n + 1, v1, σ => (if 4 ≤ v1 then rt 0 σ else mb (vp_in (((σ 4 7) * 4) + v1) 24) (lp_30_23 n (v1 + 1) (up σ 42 (((σ 4 7) * 4) + v1).toNatClampNeg 0)))
def sp_30 (σ : St) : MR := mb (vp_in (σ 4 7) 6) (mb (vp_in (σ 4 7) 6) (lp_30_23 FU 0 (up (up σ 40 (σ 4 7).toNatClampNeg 0) 41 (σ 4 7).toNatClampNeg 100)))
/-- TradeTests$Texts.next -/
def sp_33 (σ : St) : MR := (if (σ 4 1) ≤ (σ 4 2) then rt (-1) σ else mb (vp_in (σ 4 2) 60) (rt (σ 38 (σ 4 2).toNatClampNeg) σ))
/-- TradeTests$Texts.isDigit -/
def sp_35 (x1 x2 : Int32) (σ : St) : MR := (if x1 < 48 then mb ((0 : Int32) = 0 ∨ (0 : Int32) = 1) (rt 0 σ) else (if x2 < x1 then mb ((0 : Int32) = 0 ∨ (0 : Int32) = 1) (rt 0 σ) else mb ((1 : Int32) = 0 ∨ (1 : Int32) = 1) (rt 1 σ)))
/-- TradeTests$Texts.kindOf -/
def sp_36 (x1 : Int32) (σ : St) : MR := (if x1 = 99 then rt 1 σ else (if x1 = 114 then rt 3 σ else (if x1 = 116 then rt 2 σ else (if x1 = 118 then rt 0 σ else rt (-1) σ))))
/-- TradeTests$Texts.inForce -/
def lp_40_7 : Nat → Int32 → Int32 → St → MR
  | 0, _, _, _ => bad
  | n + 1, v1, v2, σ => (if v2 < 0 then rt (-1) σ else mb (vp_in v2 6) ((if v1 < (σ 39 (v2).toNatClampNeg) then lp_40_7 n v1 (v2 + (-1)) σ else rt v2 σ)))
def sp_40 (x1 : Int32) (σ : St) : MR := lp_40_7 FU x1 ((σ 4 7) - 1) σ
/-- TradeTests$Texts.failing -/
def sp_41 (x1 x2 : Int32) (σ : St) : MR := mb (vp_in ((x1 * 4) + x2) 24) (rt (σ 42 ((x1 * 4) + x2).toNatClampNeg) σ)
/-- TradeTests$Judge.brakesDo -/
def sp_44 (x1 x2 x3 : Int32) (σ : St) : MR := (if x3 ≤ x2 then (if x3 ≤ x2 then mb (vp_in x1 6) ((if x3 < (σ 40 (x1).toNatClampNeg) then mb ((0 : Int32) = 0 ∨ (0 : Int32) = 1) (rt 0 σ) else mb (vp_in x1 6) ((if (x3 * 100) < (((100 : Int32) - (σ 41 (x1).toNatClampNeg)) * x2) then mb ((0 : Int32) = 0 ∨ (0 : Int32) = 1) (rt 0 σ) else mb ((1 : Int32) = 0 ∨ (1 : Int32) = 1) (rt 1 σ))))) else mb (vp_in x1 6) ((if x3 < (σ 40 (x1).toNatClampNeg) then mb ((0 : Int32) = 0 ∨ (0 : Int32) = 1) (rt 0 σ) else mb (vp_in x1 6) ((if (x3 * 100) < (((100 : Int32) - (σ 41 (x1).toNatClampNeg)) * x3) then mb ((0 : Int32) = 0 ∨ (0 : Int32) = 1) (rt 0 σ) else mb ((1 : Int32) = 0 ∨ (1 : Int32) = 1) (rt 1 σ)))))) else (if x3 ≤ x2 then mb (vp_in x1 6) ((if x2 < (σ 40 (x1).toNatClampNeg) then mb ((0 : Int32) = 0 ∨ (0 : Int32) = 1) (rt 0 σ) else mb (vp_in x1 6) ((if (x2 * 100) < (((100 : Int32) - (σ 41 (x1).toNatClampNeg)) * x2) then mb ((0 : Int32) = 0 ∨ (0 : Int32) = 1) (rt 0 σ) else mb ((1 : Int32) = 0 ∨ (1 : Int32) = 1) (rt 1 σ))))) else mb (vp_in x1 6) ((if x2 < (σ 40 (x1).toNatClampNeg) then mb ((0 : Int32) = 0 ∨ (0 : Int32) = 1) (rt 0 σ) else mb (vp_in x1 6) ((if (x2 * 100) < (((100 : Int32) - (σ 41 (x1).toNatClampNeg)) * x3) then mb ((0 : Int32) = 0 ∨ (0 : Int32) = 1) (rt 0 σ) else mb ((1 : Int32) = 0 ∨ (1 : Int32) = 1) (rt 1 σ)))))))
/-- TradeTests$Signals.isQuick -/
def sp_54 (x1 : Int32) (σ : St) : MR := mb (vp_in x1 80) (mb (vp_in x1 80) (mb (vp_in (σ 24 (x1).toNatClampNeg) 24) (mb (vp_in (σ 15 (σ 24 (x1).toNatClampNeg).toNatClampNeg) 4) ((if ((sV 1).getD (σ 15 (σ 24 (x1).toNatClampNeg).toNatClampNeg).toNatClampNeg 0) ≤ (σ 28 (x1).toNatClampNeg) then mb ((0 : Int32) = 0 ∨ (0 : Int32) = 1) (rt 0 σ) else mb ((1 : Int32) = 0 ∨ (1 : Int32) = 1) (rt 1 σ))))))
/-- TradeTests$Signals.isMeeting -/
def sp_56 (x1 x2 : Int32) (σ : St) : MR := mb (vp_in x1 80) (mb (vp_in x2 80) ((if (σ 26 (x1).toNatClampNeg) = (σ 26 (x2).toNatClampNeg) then mb (vp_in x1 80) (mb (vp_in x2 80) (mb (vp_in x2 80) ((if ((σ 27 (x2).toNatClampNeg) + (σ 28 (x2).toNatClampNeg)) ≤ (σ 27 (x1).toNatClampNeg) then mb ((0 : Int32) = 0 ∨ (0 : Int32) = 1) (rt 0 σ) else mb (vp_in x2 80) (mb (vp_in x1 80) (mb (vp_in x1 80) ((if ((σ 27 (x1).toNatClampNeg) + (σ 28 (x1).toNatClampNeg)) ≤ (σ 27 (x2).toNatClampNeg) then mb ((0 : Int32) = 0 ∨ (0 : Int32) = 1) (rt 0 σ) else mb ((1 : Int32) = 0 ∨ (1 : Int32) = 1) (rt 1 σ))))))))) else mb ((0 : Int32) = 0 ∨ (0 : Int32) = 1) (rt 0 σ))))
/-- java/lang/Integer.bitCount -/
def sp_59 (x1 : Int32) (σ : St) : MR := rt ((((((((x1 - (((x1.toUInt32 >>> ((1 : Int32).toUInt32 &&& Int32.toUInt32 31)).toInt32) &&& 1431655765)) &&& 858993459) + ((((x1 - (((x1.toUInt32 >>> ((1 : Int32).toUInt32 &&& Int32.toUInt32 31)).toInt32) &&& 1431655765)).toUInt32 >>> ((2 : Int32).toUInt32 &&& Int32.toUInt32 31)).toInt32) &&& 858993459)) + (((((x1 - (((x1.toUInt32 >>> ((1 : Int32).toUInt32 &&& Int32.toUInt32 31)).toInt32) &&& 1431655765)) &&& 858993459) + ((((x1 - (((x1.toUInt32 >>> ((1 : Int32).toUInt32 &&& Int32.toUInt32 31)).toInt32) &&& 1431655765)).toUInt32 >>> ((2 : Int32).toUInt32 &&& Int32.toUInt32 31)).toInt32) &&& 858993459)).toUInt32 >>> ((4 : Int32).toUInt32 &&& Int32.toUInt32 31)).toInt32)) &&& 252645135) + (((((((x1 - (((x1.toUInt32 >>> ((1 : Int32).toUInt32 &&& Int32.toUInt32 31)).toInt32) &&& 1431655765)) &&& 858993459) + ((((x1 - (((x1.toUInt32 >>> ((1 : Int32).toUInt32 &&& Int32.toUInt32 31)).toInt32) &&& 1431655765)).toUInt32 >>> ((2 : Int32).toUInt32 &&& Int32.toUInt32 31)).toInt32) &&& 858993459)) + (((((x1 - (((x1.toUInt32 >>> ((1 : Int32).toUInt32 &&& Int32.toUInt32 31)).toInt32) &&& 1431655765)) &&& 858993459) + ((((x1 - (((x1.toUInt32 >>> ((1 : Int32).toUInt32 &&& Int32.toUInt32 31)).toInt32) &&& 1431655765)).toUInt32 >>> ((2 : Int32).toUInt32 &&& Int32.toUInt32 31)).toInt32) &&& 858993459)).toUInt32 >>> ((4 : Int32).toUInt32 &&& Int32.toUInt32 31)).toInt32)) &&& 252645135).toUInt32 >>> ((8 : Int32).toUInt32 &&& Int32.toUInt32 31)).toInt32)) + ((((((((x1 - (((x1.toUInt32 >>> ((1 : Int32).toUInt32 &&& Int32.toUInt32 31)).toInt32) &&& 1431655765)) &&& 858993459) + ((((x1 - (((x1.toUInt32 >>> ((1 : Int32).toUInt32 &&& Int32.toUInt32 31)).toInt32) &&& 1431655765)).toUInt32 >>> ((2 : Int32).toUInt32 &&& Int32.toUInt32 31)).toInt32) &&& 858993459)) + (((((x1 - (((x1.toUInt32 >>> ((1 : Int32).toUInt32 &&& Int32.toUInt32 31)).toInt32) &&& 1431655765)) &&& 858993459) + ((((x1 - (((x1.toUInt32 >>> ((1 : Int32).toUInt32 &&& Int32.toUInt32 31)).toInt32) &&& 1431655765)).toUInt32 >>> ((2 : Int32).toUInt32 &&& Int32.toUInt32 31)).toInt32) &&& 858993459)).toUInt32 >>> ((4 : Int32).toUInt32 &&& Int32.toUInt32 31)).toInt32)) &&& 252645135) + (((((((x1 - (((x1.toUInt32 >>> ((1 : Int32).toUInt32 &&& Int32.toUInt32 31)).toInt32) &&& 1431655765)) &&& 858993459) + ((((x1 - (((x1.toUInt32 >>> ((1 : Int32).toUInt32 &&& Int32.toUInt32 31)).toInt32) &&& 1431655765)).toUInt32 >>> ((2 : Int32).toUInt32 &&& Int32.toUInt32 31)).toInt32) &&& 858993459)) + (((((x1 - (((x1.toUInt32 >>> ((1 : Int32).toUInt32 &&& Int32.toUInt32 31)).toInt32) &&& 1431655765)) &&& 858993459) + ((((x1 - (((x1.toUInt32 >>> ((1 : Int32).toUInt32 &&& Int32.toUInt32 31)).toInt32) &&& 1431655765)).toUInt32 >>> ((2 : Int32).toUInt32 &&& Int32.toUInt32 31)).toInt32) &&& 858993459)).toUInt32 >>> ((4 : Int32).toUInt32 &&& Int32.toUInt32 31)).toInt32)) &&& 252645135).toUInt32 >>> ((8 : Int32).toUInt32 &&& Int32.toUInt32 31)).toInt32)).toUInt32 >>> ((16 : Int32).toUInt32 &&& Int32.toUInt32 31)).toInt32)) &&& 63) σ
/-- TradeTests$Secrets.isVisited -/
def sp_61 (x1 : Int32) (σ : St) : MR := mb (vp_in x1 80) ((if (σ 35 (x1).toNatClampNeg) ≤ 0 then mb ((0 : Int32) = 0 ∨ (0 : Int32) = 1) (rt 0 σ) else mb ((1 : Int32) = 0 ∨ (1 : Int32) = 1) (rt 1 σ)))
/-- TradeTests$Vehicles.ageClass -/
def sp_65 (x1 x2 : Int32) (σ : St) : MR := mb (vp_in x1 24) (mb (¬ (365 : Int32) = 0) ((if 3 ≤ ((x2 - (σ 17 (x1).toNatClampNeg)) / 365) then (if 6 ≤ ((x2 - (σ 17 (x1).toNatClampNeg)) / 365) then (if 10 ≤ ((x2 - (σ 17 (x1).toNatClampNeg)) / 365) then rt 3 σ else rt 2 σ) else rt 1 σ) else rt 0 σ)))
/-- TradeTests$Rates.cellShare -/
def sp_67 (x1 : Int32) (σ : St) : MR := mb (vp_in x1 16) ((if (σ 43 (x1).toNatClampNeg) ≤ 0 then rt (-1) σ else mb (vp_in x1 16) (mb (vp_in x1 16) (mb (¬ (σ 43 (x1).toNatClampNeg) = 0) (rt (((1000 : Int32) * (σ 44 (x1).toNatClampNeg)) / (σ 43 (x1).toNatClampNeg)) σ)))))
/-- TradeTests$Rates.more -/
def sp_68 (σ : St) : MR := rt (((1000 : Int32) * (σ 7 6)) - (σ 7 7)) σ
/-- TradeTests$Odometer.milesAhead -/
def lp_77_4 : Nat → Int32 → Int32 → St → MR
  | 0, _, _, _ => bad
  | n + 1, v1, v2, σ => (if v2 < 0 then rt 0 σ else mb (vp_in v2 80) (mb (vp_in v1 80) ((if (σ 24 (v2).toNatClampNeg) = (σ 24 (v1).toNatClampNeg) then mb (vp_in v2 80) (rt (σ 29 (v2).toNatClampNeg) σ) else lp_77_4 n v1 (v2 + (-1)) σ))))
def sp_77 (x1 : Int32) (σ : St) : MR := lp_77_4 FU x1 (x1 - 1) σ
/-- TradeTests$Odometer.milesBehind -/
def lp_78_4 : Nat → Int32 → Int32 → St → MR
  | 0, _, _, _ => bad
  | n + 1, v1, v2, σ => (if (σ 3 14) ≤ v2 then rt 999999 σ else mb (vp_in v2 80) (mb (vp_in v1 80) ((if (σ 24 (v2).toNatClampNeg) = (σ 24 (v1).toNatClampNeg) then mb (vp_in v2 80) (rt (σ 29 (v2).toNatClampNeg) σ) else lp_78_4 n v1 (v2 + 1) σ))))
def sp_78 (x1 : Int32) (σ : St) : MR := lp_78_4 FU x1 (x1 + 1) σ
/-- TradeTests$Odometer.isTyped -/
def lp_79_31 (ko : Int32 → Int32 → Int32 → Int32 → St → MR) : Nat → Int32 → Int32 → Int32 → Int32 → Int32 → Int32 → St → MR
  | 0, _, _, _, _, _, _, _ => bad
  | n + 1, v0, v1, v2, v3, v4, v5, σ => (if 10 ≤ v5 then ko v0 v1 v2 (v3 * 10) σ else (if (v4 + v3) < v1 then lp_79_31 ko n v0 v1 v2 v3 (v4 + v3) (v5 + 1) σ else (if v2 < (v4 + v3) then lp_79_31 ko n v0 v1 v2 v3 (v4 + v3) (v5 + 1) σ else mb ((1 : Int32) = 0 ∨ (1 : Int32) = 1) (rt 1 σ))))
def lp_79_2 : Nat → Int32 → Int32 → Int32 → Int32 → St → MR
  | 0, _, _, _, _, _ => bad
  | n + 1, v0, v1, v2, v3, σ => (if 1000000 ≤ v3 then mb ((0 : Int32) = 0 ∨ (0 : Int32) = 1) (rt 0 σ) else (if v3 = 1 then mb (¬ v3 = 0) (mb (¬ (10 : Int32) = 0) (lp_79_31 (fun v0 v1 v2 v3 σ => lp_79_2 n v0 v1 v2 v3 σ) FU v0 v1 v2 v3 v0 (((v0 / v3) - (v0 / v3) / 10 * 10) + 1) σ)) else (if v0 < v3 then mb ((0 : Int32) = 0 ∨ (0 : Int32) = 1) (rt 0 σ) else mb (¬ v3 = 0) (mb (¬ (10 : Int32) = 0) (lp_79_31 (fun v0 v1 v2 v3 σ => lp_79_2 n v0 v1 v2 v3 σ) FU v0 v1 v2 v3 v0 (((v0 / v3) - (v0 / v3) / 10 * 10) + 1) σ)))))
def sp_79 (x1 x2 x3 : Int32) (σ : St) : MR := lp_79_2 FU x1 x2 x3 1 σ
/-- TradeTests$Penalties.setRule -/
def sp_82 (x1 x2 : Int32) (σ : St) : MR := mb (vp_in x1 3) (mb (vp_in x1 3) (rt (σ 46 (x1).toNatClampNeg) (up σ 46 (x1).toNatClampNeg x2)))
/-- TradeTests$Penalties.rowSum -/
def lp_90_4 : Nat → Int32 → Int32 → Int32 → St → MR
  | 0, _, _, _, _ => bad
  | n + 1, v1, v2, v3, σ => (if (σ 3 14) ≤ v3 then rt v2 σ else mb (vp_in v3 80) ((if v1 < (σ 26 (v3).toNatClampNeg) then lp_90_4 n v1 v2 (v3 + 1) σ else mb (vp_in v3 80) (mb (vp_in 0 3) ((if (σ 26 (v3).toNatClampNeg) ≤ (v1 - (σ 46 (0 : Int32).toNatClampNeg)) then lp_90_4 n v1 v2 (v3 + 1) σ else mb (vp_in v3 80) (lp_90_4 n v1 (v2 + (σ 47 (v3).toNatClampNeg)) (v3 + 1) σ)))))))
def sp_90 (x1 : Int32) (σ : St) : MR := lp_90_4 FU x1 0 0 σ
/-- TradeTests$Secrets.add -/
def sp_94 (x1 : Int32) (σ : St) : MR := mb (vp_in (σ 9 3) 6) (rt (((σ 9 3) + 1) - 1) (up (up σ 45 (σ 9 3).toNatClampNeg x1) 9 3 ((σ 9 3) + 1)))
/-- TradeTests$Secrets.send -/
def sp_96 (x1 x2 : Int32) (σ : St) : MR := mb (vp_in x2 80) (rt 0 (up (up σ 35 (x2).toNatClampNeg ((1 : Int32) + x1)) 9 4 ((σ 9 4) + 1)))
/-- TradeTests$Plan.isFree -/
def sp_104 (x1 x2 : Int32) (σ : St) : MR := (if ((x1 >>> (x2 &&& 31)) &&& 1) = 0 then mb ((1 : Int32) = 0 ∨ (1 : Int32) = 1) (rt 1 σ) else mb ((0 : Int32) = 0 ∨ (0 : Int32) = 1) (rt 0 σ))
/-- TradeTests$Plan.mostWith -/
def sp_105 (x1 x2 x3 : Int32) (σ : St) : MR := mb (vp_in ((x1 * 6) + x2) 36) (mb (vp_in (((x1 + 1) * 64) + (x3 ||| ((1 : Int32) <<< (x2 &&& 31)))) 448) (rt ((σ 48 ((x1 * 6) + x2).toNatClampNeg) + (σ 49 (((x1 + 1) * 64) + (x3 ||| ((1 : Int32) <<< (x2 &&& 31)))).toNatClampNeg)) σ))
/-- TradeTests$Plan.most -/
def sp_107 (σ : St) : MR := mb (vp_in 0 448) (rt (σ 49 (0 : Int32).toNatClampNeg) σ)
/-- TradeTests$Tests.isDrawn -/
def sp_111 (x1 : Int32) (σ : St) : MR := mb (vp_in x1 80) ((if (σ 36 (x1).toNatClampNeg) ≤ 0 then mb ((0 : Int32) = 0 ∨ (0 : Int32) = 1) (rt 0 σ) else mb ((1 : Int32) = 0 ∨ (1 : Int32) = 1) (rt 1 σ)))
/-- TradeTests$Tests.addDraw -/
def sp_112 (x1 x2 x3 : Int32) (σ : St) : MR := mb (vp_in x1 80) (mb (vp_in x1 80) (rt ((σ 3 15) + 1) (up (up (up σ 36 (x1).toNatClampNeg x2) 37 (x1).toNatClampNeg x3) 3 15 ((σ 3 15) + 1))))
/-- TradeTests$Tests.drawnError -/
def lp_114_6 : Nat → Int32 → Int32 → Int32 → St → MR
  | 0, _, _, _, _ => bad
  | n + 1, v1, v2, v3, σ => (if (σ 3 14) ≤ v3 then (if v1 ≤ 0 then rt (-1) σ else mb (¬ v1 = 0) (rt ((v2 * 1000) / v1) σ)) else mb (vp_in v3 80) ((if (σ 36 (v3).toNatClampNeg) ≤ 0 then lp_114_6 n v1 v2 (v3 + 1) σ else mb (vp_in v3 80) (mb (¬ (σ 36 (v3).toNatClampNeg) = 0) (mb (vp_in v3 80) (lp_114_6 n (v1 + ((10000 : Int32) / (σ 36 (v3).toNatClampNeg))) (v2 + ((σ 37 (v3).toNatClampNeg) * ((10000 : Int32) / (σ 36 (v3).toNatClampNeg)))) (v3 + 1) σ))))))
def sp_114 (σ : St) : MR := lp_114_6 FU 0 0 0 σ
/-- TradeTestsModel.in -/
def sp_123 (x1 x2 x3 : Int32) (σ : St) : MR := (if x1 < x2 then mb ((0 : Int32) = 0 ∨ (0 : Int32) = 1) (rt 0 σ) else (if x3 < x1 then mb ((0 : Int32) = 0 ∨ (0 : Int32) = 1) (rt 0 σ) else mb ((1 : Int32) = 0 ∨ (1 : Int32) = 1) (rt 1 σ)))
/-- TradeTestsModel.finds -/
def sp_125 (x1 : Int32) (σ : St) : MR := mb (vp_in x1 6) (mb (vp_in x1 6) (rt ((-1000000 : Int32) - x1) (up σ 80 (x1).toNatClampNeg ((σ 80 (x1).toNatClampNeg) + 1))))
/-- TradeTestsModel.isUnder -/
def sp_128 (x1 x2 : Int32) (σ : St) : MR := (if x2 = 0 then mb ((1 : Int32) = 0 ∨ (1 : Int32) = 1) (rt 1 σ) else (if x1 = x2 then mb ((1 : Int32) = 0 ∨ (1 : Int32) = 1) (rt 1 σ) else (if x2 = 1 then (if x1 = 2 then mb ((1 : Int32) = 0 ∨ (1 : Int32) = 1) (rt 1 σ) else mb ((0 : Int32) = 0 ∨ (0 : Int32) = 1) (rt 0 σ)) else mb ((0 : Int32) = 0 ∨ (0 : Int32) = 1) (rt 0 σ))))
/-- TradeTestsModel.dueOf -/
def sp_129 (x1 : Int32) (σ : St) : MR := mb (vp_in x1 24) ((if (σ 50 (x1).toNatClampNeg) = 2 then rt 182 σ else mb (vp_in x1 24) ((if (σ 50 (x1).toNatClampNeg) = 3 then rt 730 σ else rt 365 σ))))
/-- TradeTestsModel.placeOf -/
def lp_135_10 : Nat → Int32 → Int32 → Int32 → Int32 → St → MR
  | 0, _, _, _, _, _ => bad
  | n + 1, v1, v2, v3, v4, σ => (if (σ 12 3) ≤ v4 then rt v3 σ else mb (vp_in v4 30) ((if (σ 56 (v4).toNatClampNeg) = v1 then mb (vp_in v4 30) ((if v2 < (σ 58 (v4).toNatClampNeg) then lp_135_10 n v1 v2 v3 (v4 + 1) σ else mb (vp_in v4 30) (lp_135_10 n v1 v2 (σ 57 (v4).toNatClampNeg) (v4 + 1) σ))) else lp_135_10 n v1 v2 v3 (v4 + 1) σ)))
def sp_135 (x1 x2 : Int32) (σ : St) : MR := mb (vp_in x1 8) (lp_135_10 FU x1 x2 (σ 55 (x1).toNatClampNeg) 0 σ)
/-- TradeTestsModel.here -/
def sp_145 (σ : St) : MR := (if (σ 12 9) ≤ (σ 12 45) then rt (-1) σ else mb (vp_in (σ 12 45) 60) (rt (σ 78 (σ 12 45).toNatClampNeg) σ))
/-- TradeTestsModel.isDigit -/
def sp_148 (x1 : Int32) (σ : St) : MR := (if x1 < 48 then mb ((0 : Int32) = 0 ∨ (0 : Int32) = 1) (rt 0 σ) else (if 57 < x1 then mb ((0 : Int32) = 0 ∨ (0 : Int32) = 1) (rt 0 σ) else mb ((1 : Int32) = 0 ∨ (1 : Int32) = 1) (rt 1 σ)))
/-- TradeTestsModel.textOn -/
def lp_150_4 : Nat → Int32 → Int32 → Int32 → St → MR
  | 0, _, _, _, _ => bad
  | n + 1, v1, v2, v3, σ => (if (σ 12 5) ≤ v3 then rt v2 σ else mb (vp_in v3 7) ((if v1 < (σ 73 (v3).toNatClampNeg) then lp_150_4 n v1 v2 (v3 + 1) σ else lp_150_4 n v1 v3 (v3 + 1) σ)))
def sp_150 (x1 : Int32) (σ : St) : MR := lp_150_4 FU x1 (-1) 0 σ
/-- TradeTestsModel.cellOf -/
def sp_157 (x1 : Int32) (σ : St) : MR := mb (vp_in x1 80) (mb (vp_in x1 80) (mb (vp_in (σ 59 (x1).toNatClampNeg) 24) (mb (¬ (365 : Int32) = 0) ((if 3 ≤ (((σ 61 (x1).toNatClampNeg) - (σ 52 (σ 59 (x1).toNatClampNeg).toNatClampNeg)) / 365) then (if 6 ≤ (((σ 61 (x1).toNatClampNeg) - (σ 52 (σ 59 (x1).toNatClampNeg).toNatClampNeg)) / 365) then (if 10 ≤ (((σ 61 (x1).toNatClampNeg) - (σ 52 (σ 59 (x1).toNatClampNeg).toNatClampNeg)) / 365) then mb (vp_in x1 80) (mb (vp_in (σ 59 (x1).toNatClampNeg) 24) (rt (((4 : Int32) * 3) + (σ 51 (σ 59 (x1).toNatClampNeg).toNatClampNeg)) σ)) else mb (vp_in x1 80) (mb (vp_in (σ 59 (x1).toNatClampNeg) 24) (rt (((4 : Int32) * 2) + (σ 51 (σ 59 (x1).toNatClampNeg).toNatClampNeg)) σ))) else mb (vp_in x1 80) (mb (vp_in (σ 59 (x1).toNatClampNeg) 24) (rt (((4 : Int32) * 1) + (σ 51 (σ 59 (x1).toNatClampNeg).toNatClampNeg)) σ))) else mb (vp_in x1 80) (mb (vp_in (σ 59 (x1).toNatClampNeg) 24) (rt (((4 : Int32) * 0) + (σ 51 (σ 59 (x1).toNatClampNeg).toNatClampNeg)) σ)))))))
/-- TradeTestsModel.ones -/
def lp_160_4 : Nat → Int32 → Int32 → Int32 → St → MR
  | 0, _, _, _, _ => bad
  | n + 1, v0, v1, v2, σ => (if v2 = 0 then rt v1 σ else lp_160_4 n v0 (v1 + 1) (v2 &&& (v2 - 1)) σ)
def sp_160 (x1 : Int32) (σ : St) : MR := lp_160_4 FU x1 0 x1 σ
/-- TradeTestsModel.isQuick -/
def sp_165 (x1 : Int32) (σ : St) : MR := mb (vp_in x1 80) (mb (vp_in (σ 59 (x1).toNatClampNeg) 24) (mb (vp_in x1 80) ((if (σ 50 (σ 59 (x1).toNatClampNeg).toNatClampNeg) = 2 then (if 30 ≤ (σ 63 (x1).toNatClampNeg) then mb ((0 : Int32) = 0 ∨ (0 : Int32) = 1) (rt 0 σ) else mb ((1 : Int32) = 0 ∨ (1 : Int32) = 1) (rt 1 σ)) else (if (σ 50 (σ 59 (x1).toNatClampNeg).toNatClampNeg) = 3 then (if 10 ≤ (σ 63 (x1).toNatClampNeg) then mb ((0 : Int32) = 0 ∨ (0 : Int32) = 1) (rt 0 σ) else mb ((1 : Int32) = 0 ∨ (1 : Int32) = 1) (rt 1 σ)) else (if 20 ≤ (σ 63 (x1).toNatClampNeg) then mb ((0 : Int32) = 0 ∨ (0 : Int32) = 1) (rt 0 σ) else mb ((1 : Int32) = 0 ∨ (1 : Int32) = 1) (rt 1 σ)))))))
/-- TradeTestsModel.overlaps -/
def lp_166_2 : Nat → Int32 → Int32 → St → MR
  | 0, _, _, _ => bad
  | n + 1, v1, v2, σ => (if (σ 12 4) ≤ v2 then mb ((0 : Int32) = 0 ∨ (0 : Int32) = 1) (rt 0 σ) else (if v2 = v1 then lp_166_2 n v1 (v2 + 1) σ else mb (vp_in v2 80) (mb (vp_in v1 80) ((if (σ 60 (v2).toNatClampNeg) = (σ 60 (v1).toNatClampNeg) then mb (vp_in v2 80) (mb (vp_in v1 80) ((if (σ 61 (v2).toNatClampNeg) = (σ 61 (v1).toNatClampNeg) then mb (vp_in v2 80) (mb (vp_in v1 80) (mb (vp_in v1 80) ((if ((σ 62 (v1).toNatClampNeg) + (σ 63 (v1).toNatClampNeg)) ≤ (σ 62 (v2).toNatClampNeg) then lp_166_2 n v1 (v2 + 1) σ else mb (vp_in v1 80) (mb (vp_in v2 80) (mb (vp_in v2 80) ((if ((σ 62 (v2).toNatClampNeg) + (σ 63 (v2).toNatClampNeg)) ≤ (σ 62 (v1).toNatClampNeg) then lp_166_2 n v1 (v2 + 1) σ else mb ((1 : Int32) = 0 ∨ (1 : Int32) = 1) (rt 1 σ))))))))) else lp_166_2 n v1 (v2 + 1) σ))) else lp_166_2 n v1 (v2 + 1) σ)))))
def sp_166 (x1 : Int32) (σ : St) : MR := lp_166_2 FU x1 0 σ
/-- TradeTests.vehicle -/
def sp_0 (x1 x2 x3 : Int32) (σ : St) : MR := bn (sp_1 x1 4 σ) (fun r9 σ9 => (if r9 = 0 then bn (sp_2 1 σ9) (fun r10 σ10 => rt r10 σ10) else bn (sp_1 x2 4 σ9) (fun r11 σ11 => (if r11 = 0 then bn (sp_2 1 σ11) (fun r12 σ12 => rt r12 σ12) else bn (sp_1 x3 10000 σ11) (fun r13 σ13 => (if r13 = 0 then bn (sp_2 1 σ13) (fun r16 σ16 => rt r16 σ16) else (if (σ13 1 3) < 24 then bn (sp_3 x1 x2 x3 σ13) (fun r14 σ14 => rt r14 σ14) else bn (sp_2 4 σ13) (fun r15 σ15 => rt r15 σ15))))))))
/-- TradeTests.as -/
def sp_4 (x1 x2 : Int32) (σ : St) : MR := bn (sp_1 x1 (σ 1 3) σ) (fun r8 σ8 => (if r8 = 0 then bn (sp_2 1 σ8) (fun r9 σ9 => rt r9 σ9) else bn (sp_1 x2 4 σ8) (fun r10 σ10 => (if r10 = 0 then bn (sp_2 1 σ10) (fun r14 σ14 => rt r14 σ14) else mb (vp_in x1 24) (bn (sp_5 (σ10 15 (x1).toNatClampNeg) x2 σ10) (fun r11 σ11 => (if r11 = 0 then bn (sp_2 5 σ11) (fun r13 σ13 => rt r13 σ13) else bn (sp_6 x1 σ11) (fun r12 σ12 => rt r12 σ12))))))))
/-- TradeTests.garage -/
def sp_7 (x1 x2 : Int32) (σ : St) : MR := bn (sp_1 x1 1440 σ) (fun r7 σ7 => (if r7 = 0 then bn (sp_2 1 σ7) (fun r8 σ8 => rt r8 σ8) else (if x2 ≤ x1 then bn (sp_2 1 σ7) (fun r9 σ9 => rt r9 σ9) else (if x2 ≤ 1440 then (if (σ7 2 2) < 6 then bn (sp_8 x1 x2 σ7) (fun r10 σ10 => rt r10 σ10) else bn (sp_2 4 σ7) (fun r11 σ11 => rt r11 σ11)) else bn (sp_2 1 σ7) (fun r12 σ12 => rt r12 σ12)))))
/-- TradeTests.tester -/
def sp_9 (x1 : Int32) (σ : St) : MR := bn (sp_1 x1 (σ 2 2) σ) (fun r5 σ5 => (if r5 = 0 then bn (sp_2 1 σ5) (fun r8 σ8 => rt r8 σ8) else (if (σ5 2 4) < 8 then bn (sp_10 x1 σ5) (fun r6 σ6 => rt r6 σ6) else bn (sp_2 4 σ5) (fun r7 σ7 => rt r7 σ7))))
/-- TradeTests.move -/
def sp_11 (x1 x2 x3 : Int32) (σ : St) : MR := bn (sp_1 x1 (σ 2 4) σ) (fun r12 σ12 => (if r12 = 0 then bn (sp_2 1 σ12) (fun r13 σ13 => rt r13 σ13) else bn (sp_1 x2 (σ12 2 2) σ12) (fun r14 σ14 => (if r14 = 0 then bn (sp_2 1 σ14) (fun r15 σ15 => rt r15 σ15) else bn (sp_1 x3 10000 σ14) (fun r16 σ16 => (if r16 = 0 then bn (sp_2 1 σ16) (fun r22 σ22 => rt r22 σ22) else bn (sp_12 x1 σ16) (fun r17 σ17 => (if r17 ≤ x3 then (if (σ17 2 8) < 30 then bn (sp_13 x1 x2 x3 σ17) (fun r18 σ18 => bn (sp_14 x1 (x3 - 1) σ18) (fun r19 σ19 => rt r19 σ19)) else bn (sp_2 4 σ17) (fun r20 σ20 => rt r20 σ20)) else bn (sp_2 1 σ17) (fun r21 σ21 => rt r21 σ21)))))))))
/-- TradeTests.at -/
def sp_15 (x1 x2 : Int32) (σ : St) : MR := bn (sp_1 x1 (σ 2 4) σ) (fun r6 σ6 => (if r6 = 0 then bn (sp_2 1 σ6) (fun r7 σ7 => rt r7 σ7) else bn (sp_1 x2 10000 σ6) (fun r8 σ8 => (if r8 = 0 then bn (sp_2 1 σ8) (fun r10 σ10 => rt r10 σ10) else bn (sp_14 x1 x2 σ8) (fun r9 σ9 => rt r9 σ9)))))
/-- TradeTests.isWhen -/
def sp_18 (x1 x2 : Int32) (σ : St) : MR := (if x2 < 0 then mb ((0 : Int32) = 0 ∨ (0 : Int32) = 1) (rt 0 σ) else mb (¬ (10000 : Int32) = 0) ((if (x2 / 10000) < 1440 then mb (¬ (10000 : Int32) = 0) (bn (sp_19  σ) (fun r2 σ2 => (if (x2 - x2 / 10000 * 10000) < r2 then mb ((0 : Int32) = 0 ∨ (0 : Int32) = 1) (rt 0 σ2) else mb (¬ (100 : Int32) = 0) (mb (vp_in (x1 / 100) 24) ((if (x2 - x2 / 10000 * 10000) < (σ2 17 (x1 / 100).toNatClampNeg) then mb ((0 : Int32) = 0 ∨ (0 : Int32) = 1) (rt 0 σ2) else mb ((1 : Int32) = 0 ∨ (1 : Int32) = 1) (rt 1 σ2))))))) else mb ((0 : Int32) = 0 ∨ (0 : Int32) = 1) (rt 0 σ))))
/-- TradeTests.isMiles -/
def sp_21 (x1 x2 : Int32) (σ : St) : MR := mb (¬ (100 : Int32) = 0) (mb (vp_in (x1 / 100) 24) ((if (σ 15 (x1 / 100).toNatClampNeg) = 3 then (if x2 = 0 then mb ((1 : Int32) = 0 ∨ (1 : Int32) = 1) (rt 1 σ) else mb ((0 : Int32) = 0 ∨ (0 : Int32) = 1) (rt 0 σ)) else bn (sp_1 x2 1000000 σ) (fun r2 σ2 => mb (r2 = 0 ∨ r2 = 1) (rt r2 σ2)))))
/-- TradeTests$Trade.garageOf -/
def sp_24 (x2 : Int32) (σ : St) : MR := mb (vp_in x2 80) (mb (vp_in x2 80) (bn (sp_14 (σ 25 (x2).toNatClampNeg) (σ 26 (x2).toNatClampNeg) σ) (fun r2 σ2 => rt r2 σ2)))
/-- TradeTests.feed -/
def sp_26 (x1 : Int32) (σ : St) : MR := bn (sp_1 x1 256 σ) (fun r5 σ5 => (if r5 = 0 then bn (sp_2 1 σ5) (fun r8 σ8 => rt r8 σ8) else (if (σ5 4 1) < 60 then bn (sp_27 x1 σ5) (fun r6 σ6 => rt r6 σ6) else bn (sp_2 4 σ5) (fun r7 σ7 => rt r7 σ7))))
/-- TradeTests$Texts.readEnd -/
def sp_37 (σ : St) : MR := bn (sp_33  σ) (fun r2 σ2 => (if r2 = 59 then mb ((1 : Int32) = 0 ∨ (1 : Int32) = 1) (rt 1 (up σ2 4 2 ((σ2 4 2) + 1))) else mb ((0 : Int32) = 0 ∨ (0 : Int32) = 1) (rt 0 σ2)))
/-- TradeTests.says -/
def sp_39 (x1 x2 : Int32) (σ : St) : MR := (if x2 = 0 then bn (sp_1 x1 10000 σ) (fun r31 σ31 => (if r31 = 0 then bn (sp_2 1 σ31) (fun r32 σ32 => rt r32 σ32) else (if (1 : Int32) = 0 then bn (sp_2 1 σ31) (fun r36 σ36 => rt r36 σ36) else bn (sp_40 x1 σ31) (fun r33 σ33 => (if 0 ≤ r33 then (if x2 < 10 then (if x2 = 0 then mb (vp_in r33 6) (rt (σ33 40 (r33).toNatClampNeg) σ33) else mb (vp_in r33 6) (rt (σ33 41 (r33).toNatClampNeg) σ33)) else bn (sp_41 r33 (x2 - 10) σ33) (fun r34 σ34 => rt r34 σ34)) else bn (sp_2 2 σ33) (fun r35 σ35 => rt r35 σ35)))))) else (if x2 = 1 then bn (sp_1 x1 10000 σ) (fun r37 σ37 => (if r37 = 0 then bn (sp_2 1 σ37) (fun r38 σ38 => rt r38 σ38) else (if (1 : Int32) = 0 then bn (sp_2 1 σ37) (fun r42 σ42 => rt r42 σ42) else bn (sp_40 x1 σ37) (fun r39 σ39 => (if 0 ≤ r39 then (if x2 < 10 then (if x2 = 0 then mb (vp_in r39 6) (rt (σ39 40 (r39).toNatClampNeg) σ39) else mb (vp_in r39 6) (rt (σ39 41 (r39).toNatClampNeg) σ39)) else bn (sp_41 r39 (x2 - 10) σ39) (fun r40 σ40 => rt r40 σ40)) else bn (sp_2 2 σ39) (fun r41 σ41 => rt r41 σ41)))))) else (if x2 < 10 then bn (sp_1 x1 10000 σ) (fun r43 σ43 => (if r43 = 0 then bn (sp_2 1 σ43) (fun r44 σ44 => rt r44 σ44) else (if (0 : Int32) = 0 then bn (sp_2 1 σ43) (fun r48 σ48 => rt r48 σ48) else bn (sp_40 x1 σ43) (fun r45 σ45 => (if 0 ≤ r45 then (if x2 < 10 then (if x2 = 0 then mb (vp_in r45 6) (rt (σ45 40 (r45).toNatClampNeg) σ45) else mb (vp_in r45 6) (rt (σ45 41 (r45).toNatClampNeg) σ45)) else bn (sp_41 r45 (x2 - 10) σ45) (fun r46 σ46 => rt r46 σ46)) else bn (sp_2 2 σ45) (fun r47 σ47 => rt r47 σ47)))))) else (if 14 ≤ x2 then bn (sp_1 x1 10000 σ) (fun r49 σ49 => (if r49 = 0 then bn (sp_2 1 σ49) (fun r50 σ50 => rt r50 σ50) else (if (0 : Int32) = 0 then bn (sp_2 1 σ49) (fun r54 σ54 => rt r54 σ54) else bn (sp_40 x1 σ49) (fun r51 σ51 => (if 0 ≤ r51 then (if x2 < 10 then (if x2 = 0 then mb (vp_in r51 6) (rt (σ51 40 (r51).toNatClampNeg) σ51) else mb (vp_in r51 6) (rt (σ51 41 (r51).toNatClampNeg) σ51)) else bn (sp_41 r51 (x2 - 10) σ51) (fun r52 σ52 => rt r52 σ52)) else bn (sp_2 2 σ51) (fun r53 σ53 => rt r53 σ53)))))) else bn (sp_1 x1 10000 σ) (fun r55 σ55 => (if r55 = 0 then bn (sp_2 1 σ55) (fun r56 σ56 => rt r56 σ56) else (if (1 : Int32) = 0 then bn (sp_2 1 σ55) (fun r60 σ60 => rt r60 σ60) else bn (sp_40 x1 σ55) (fun r57 σ57 => (if 0 ≤ r57 then (if x2 < 10 then (if x2 = 0 then mb (vp_in r57 6) (rt (σ57 40 (r57).toNatClampNeg) σ57) else mb (vp_in r57 6) (rt (σ57 41 (r57).toNatClampNeg) σ57)) else bn (sp_41 r57 (x2 - 10) σ57) (fun r58 σ58 => rt r58 σ58)) else bn (sp_2 2 σ57) (fun r59 σ59 => rt r59 σ59))))))))))
/-- TradeTests$Judge.passes -/
def sp_43 (x1 : Int32) (σ : St) : MR := mb (vp_in x1 80) (bn (sp_40 (σ 26 (x1).toNatClampNeg) σ) (fun r4 σ4 => (if 0 ≤ r4 then mb (vp_in x1 80) (mb (vp_in (σ4 24 (x1).toNatClampNeg) 24) (bn (sp_41 r4 (σ4 15 (σ4 24 (x1).toNatClampNeg).toNatClampNeg) σ4) (fun r5 σ5 => mb (vp_in x1 80) ((if (r5 &&& (σ5 32 (x1).toNatClampNeg)) = 0 then (if (σ4 15 (σ4 24 (x1).toNatClampNeg).toNatClampNeg) = 3 then mb ((1 : Int32) = 0 ∨ (1 : Int32) = 1) (rt 1 σ5) else mb (vp_in x1 80) (mb (vp_in x1 80) (bn (sp_44 r4 (σ5 30 (x1).toNatClampNeg) (σ5 31 (x1).toNatClampNeg) σ5) (fun r6 σ6 => (if r6 = 0 then mb ((0 : Int32) = 0 ∨ (0 : Int32) = 1) (rt 0 σ6) else mb ((1 : Int32) = 0 ∨ (1 : Int32) = 1) (rt 1 σ6)))))) else mb ((0 : Int32) = 0 ∨ (0 : Int32) = 1) (rt 0 σ5)))))) else mb ((1 : Int32) = 0 ∨ (1 : Int32) = 1) (rt 1 σ4))))
/-- TradeTests$Signals.isAlike -/
def sp_52 (x1 x2 : Int32) (σ : St) : MR := mb (vp_in x1 80) (mb (vp_in x2 80) ((if (σ 24 (x1).toNatClampNeg) = (σ 24 (x2).toNatClampNeg) then mb ((0 : Int32) = 0 ∨ (0 : Int32) = 1) (rt 0 σ) else mb (vp_in x1 80) (mb (vp_in x2 80) ((if 30 < (absI ((σ 26 (x1).toNatClampNeg) - (σ 26 (x2).toNatClampNeg))) then mb ((0 : Int32) = 0 ∨ (0 : Int32) = 1) (rt 0 σ) else mb (vp_in x1 80) (mb (vp_in x2 80) ((if 1 < (absI ((σ 30 (x1).toNatClampNeg) - (σ 30 (x2).toNatClampNeg))) then mb ((0 : Int32) = 0 ∨ (0 : Int32) = 1) (rt 0 σ) else mb (vp_in x1 80) (mb (vp_in x2 80) ((if 1 < (absI ((σ 31 (x1).toNatClampNeg) - (σ 31 (x2).toNatClampNeg))) then mb ((0 : Int32) = 0 ∨ (0 : Int32) = 1) (rt 0 σ) else mb ((1 : Int32) = 0 ∨ (1 : Int32) = 1) (rt 1 σ)))))))))))))
/-- TradeTests$Signals.isOverlapping -/
def lp_55_2 : Nat → Int32 → Int32 → St → MR
  | 0, _, _, _ => bad
  | n + 1, v1, v2, σ => (if (σ 3 14) ≤ v2 then mb ((0 : Int32) = 0 ∨ (0 : Int32) = 1) (rt 0 σ) else (if v2 = v1 then lp_55_2 n v1 (v2 + 1) σ else mb (vp_in v2 80) (mb (vp_in v1 80) ((if (σ 25 (v2).toNatClampNeg) = (σ 25 (v1).toNatClampNeg) then bn (sp_56 v2 v1 σ) (fun r2 σ2 => (if r2 = 0 then lp_55_2 n v1 (v2 + 1) σ2 else mb ((1 : Int32) = 0 ∨ (1 : Int32) = 1) (rt 1 σ2))) else lp_55_2 n v1 (v2 + 1) σ)))))
def sp_55 (x1 : Int32) (σ : St) : MR := lp_55_2 FU x1 0 σ
/-- TradeTests$Secrets.knownIn -/
def sp_60 (x1 : Int32) (σ : St) : MR := bn (sp_61 x1 σ) (fun r2 σ2 => (if r2 = 0 then rt 0 σ2 else mb (vp_in x1 80) (mb (vp_in ((σ2 35 (x1).toNatClampNeg) - 1) 6) (rt (σ2 45 ((σ2 35 (x1).toNatClampNeg) - 1).toNatClampNeg) σ2))))
/-- TradeTests$Rates.cellOf -/
def sp_64 (x1 : Int32) (σ : St) : MR := mb (vp_in x1 80) (mb (vp_in x1 80) (bn (sp_65 (σ 24 (x1).toNatClampNeg) (σ 26 (x1).toNatClampNeg) σ) (fun r2 σ2 => mb (vp_in (σ 24 (x1).toNatClampNeg) 24) (rt ((r2 * 4) + (σ2 16 (σ 24 (x1).toNatClampNeg).toNatClampNeg)) σ2))))
/-- TradeTests$Odometer.fall -/
def sp_76 (x1 : Int32) (σ : St) : MR := mb (vp_in x1 80) (bn (sp_77 x1 σ) (fun r4 σ4 => (if (σ 29 (x1).toNatClampNeg) < r4 then bn (sp_78 x1 σ4) (fun r5 σ5 => bn (sp_79 (σ 29 (x1).toNatClampNeg) r4 r5 σ5) (fun r6 σ6 => (if r6 = 0 then rt 2 σ6 else rt 1 σ6))) else rt 0 σ4)))
/-- TradeTests$Penalties.isRule -/
def sp_81 (x1 x2 : Int32) (σ : St) : MR := bn (sp_1 x1 3 σ) (fun r2 σ2 => (if r2 = 0 then mb ((0 : Int32) = 0 ∨ (0 : Int32) = 1) (rt 0 σ2) else (if x2 < 1 then mb ((0 : Int32) = 0 ∨ (0 : Int32) = 1) (rt 0 σ2) else mb (vp_in x1 3) ((if ((sV 2).getD (x1).toNatClampNeg 0) < x2 then mb ((0 : Int32) = 0 ∨ (0 : Int32) = 1) (rt 0 σ2) else mb ((1 : Int32) = 0 ∨ (1 : Int32) = 1) (rt 1 σ2))))))
/-- TradeTests.appeal -/
def sp_83 (x1 x2 : Int32) (σ : St) : MR := bn (sp_1 x1 (σ 3 14) σ) (fun r5 σ5 => (if r5 = 0 then bn (sp_2 1 σ5) (fun r6 σ6 => rt r6 σ6) else bn (sp_1 x2 2 σ5) (fun r7 σ7 => (if r7 = 0 then bn (sp_2 1 σ7) (fun r8 σ8 => rt r8 σ8) else mb (vp_in x1 80) (mb (vp_in x1 80) (rt (σ7 34 (x1).toNatClampNeg) (up σ7 34 (x1).toNatClampNeg x2)))))))
/-- TradeTests.secret -/
def sp_93 (x1 : Int32) (σ : St) : MR := (if x1 < 1 then bn (sp_2 1 σ) (fun r5 σ5 => rt r5 σ5) else (if x1 < 256 then (if (σ 9 3) < 6 then bn (sp_94 x1 σ) (fun r6 σ6 => rt r6 σ6) else bn (sp_2 4 σ) (fun r7 σ7 => rt r7 σ7)) else bn (sp_2 1 σ) (fun r8 σ8 => rt r8 σ8)))
/-- TradeTests$Plan.newFaults -/
def sp_99 (x1 : Int32) (σ : St) : MR := mb (vp_in x1 6) (bn (sp_59 ((σ 45 (x1).toNatClampNeg) &&& ((σ 11 7) ^^^ (-1))) σ) (fun r2 σ2 => rt r2 σ2))
/-- TradeTests$Plan.mostFrom -/
def lp_103_17 : Nat → Int32 → Int32 → Int32 → Int32 → St → MR
  | 0, _, _, _, _, _ => bad
  | n + 1, v1, v2, v3, v4, σ => (if (σ 2 2) ≤ v4 then rt v3 σ else bn (sp_104 v2 v4 σ) (fun r3 σ3 => (if r3 = 0 then lp_103_17 n v1 v2 v3 (v4 + 1) σ3 else bn (sp_105 v1 v4 v2 σ3) (fun r4 σ4 => lp_103_17 n v1 v2 (maxI v3 r4) (v4 + 1) σ4))))
def sp_103 (x1 x2 : Int32) (σ : St) : MR := mb (vp_in (((x1 + 1) * 64) + x2) 448) (lp_103_17 FU x1 x2 (σ 49 (((x1 + 1) * 64) + x2).toNatClampNeg) 0 σ)
/-- TradeTests$Plan.leastGarage -/
def lp_109_2 : Nat → Int32 → Int32 → Int32 → St → MR
  | 0, _, _, _, _ => bad
  | n + 1, v1, v2, v3, σ => (if (σ 2 2) ≤ v3 then rt (-1) σ else bn (sp_104 v2 v3 σ) (fun r3 σ3 => (if r3 = 0 then lp_109_2 n v1 v2 (v3 + 1) σ3 else bn (sp_105 v1 v3 v2 σ3) (fun r4 σ4 => mb (vp_in ((v1 * 64) + v2) 448) ((if r4 = (σ4 49 ((v1 * 64) + v2).toNatClampNeg) then rt v3 σ4 else lp_109_2 n v1 v2 (v3 + 1) σ4))))))
def sp_109 (x1 x2 : Int32) (σ : St) : MR := lp_109_2 FU x1 x2 0 σ
/-- TradeTests.draw -/
def sp_110 (x1 x2 x3 : Int32) (σ : St) : MR := bn (sp_1 x1 (σ 3 14) σ) (fun r10 σ10 => (if r10 = 0 then bn (sp_2 1 σ10) (fun r11 σ11 => rt r11 σ11) else (if x2 < 1 then bn (sp_2 1 σ10) (fun r12 σ12 => rt r12 σ12) else (if 100 < x2 then bn (sp_2 1 σ10) (fun r13 σ13 => rt r13 σ13) else bn (sp_1 x3 2 σ10) (fun r14 σ14 => (if r14 = 0 then bn (sp_2 1 σ14) (fun r18 σ18 => rt r18 σ18) else bn (sp_111 x1 σ14) (fun r15 σ15 => (if r15 = 0 then bn (sp_112 x1 x2 x3 σ15) (fun r16 σ16 => rt r16 σ16) else bn (sp_2 3 σ15) (fun r17 σ17 => rt r17 σ17)))))))))
/-- TradeTests.error -/
def sp_113 (σ : St) : MR := bn (sp_114  σ) (fun r3 σ3 => (if 0 ≤ r3 then rt r3 σ3 else bn (sp_2 2 σ3) (fun r4 σ4 => rt r4 σ4)))
/-- TradeTests.tell -/
def sp_117 (x1 : Int32) (σ : St) : MR := (if (σ 0 12) < 8 then mb (vp_in (σ 0 12) 8) (rt ((σ 0 12) + 1) (up (up σ 13 (σ 0 12).toNatClampNeg x1) 0 12 ((σ 0 12) + 1))) else bn (sp_2 4 σ) (fun r2 σ2 => rt r2 σ2))
/-- TradeTests.found -/
def sp_121 (x1 : Int32) (σ : St) : MR := (if x1 < 1 then bn (sp_2 1 σ) (fun r3 σ3 => rt r3 σ3) else (if x1 ≤ 5 then mb (vp_in x1 6) (rt (σ 14 (x1).toNatClampNeg) σ) else bn (sp_2 1 σ) (fun r4 σ4 => rt r4 σ4)))
/-- TradeTestsModel.isDay -/
def sp_124 (x1 : Int32) (σ : St) : MR := bn (sp_123 x1 0 9999 σ) (fun r2 σ2 => mb (r2 = 0 ∨ r2 = 1) (rt r2 σ2))
/-- TradeTestsModel.isVehicle -/
def sp_127 (x1 : Int32) (σ : St) : MR := bn (sp_123 x1 0 ((σ 12 0) - 1) σ) (fun r2 σ2 => mb (r2 = 0 ∨ r2 = 1) (rt r2 σ2))
/-- TradeTestsModel.garage -/
def sp_130 (x1 x2 : Int32) (σ : St) : MR := bn (sp_123 x1 0 1439 σ) (fun r6 σ6 => (if r6 = 0 then bn (sp_125 1 σ6) (fun r7 σ7 => rt r7 σ7) else bn (sp_123 x2 (x1 + 1) 1440 σ6) (fun r8 σ8 => (if r8 = 0 then bn (sp_125 1 σ8) (fun r10 σ10 => rt r10 σ10) else (if (σ8 12 1) = 6 then bn (sp_125 4 σ8) (fun r9 σ9 => rt r9 σ9) else mb (vp_in (σ8 12 1) 6) (mb (vp_in (σ8 12 1) 6) (rt (((σ8 12 1) + 1) - 1) (up (up (up σ8 53 (σ8 12 1).toNatClampNeg x1) 54 (σ8 12 1).toNatClampNeg x2) 12 1 ((σ8 12 1) + 1)))))))))
/-- TradeTestsModel.isGarage -/
def sp_132 (x1 : Int32) (σ : St) : MR := bn (sp_123 x1 0 ((σ 12 1) - 1) σ) (fun r2 σ2 => mb (r2 = 0 ∨ r2 = 1) (rt r2 σ2))
/-- TradeTestsModel.isTester -/
def sp_134 (x1 : Int32) (σ : St) : MR := bn (sp_123 x1 0 ((σ 12 2) - 1) σ) (fun r2 σ2 => mb (r2 = 0 ∨ r2 = 1) (rt r2 σ2))
/-- TradeTestsModel.isTest -/
def sp_140 (x1 : Int32) (σ : St) : MR := bn (sp_123 x1 0 ((σ 12 4) - 1) σ) (fun r2 σ2 => mb (r2 = 0 ∨ r2 = 1) (rt r2 σ2))
/-- TradeTestsModel.garageOf -/
def sp_141 (x1 : Int32) (σ : St) : MR := mb (vp_in x1 80) (mb (vp_in x1 80) (bn (sp_135 (σ 60 (x1).toNatClampNeg) (σ 61 (x1).toNatClampNeg) σ) (fun r2 σ2 => rt r2 σ2)))
/-- TradeTestsModel.feed -/
def sp_142 (x1 : Int32) (σ : St) : MR := bn (sp_123 x1 0 255 σ) (fun r4 σ4 => (if r4 = 0 then bn (sp_125 1 σ4) (fun r6 σ6 => rt r6 σ6) else (if (σ4 12 9) = 60 then bn (sp_125 4 σ4) (fun r5 σ5 => rt r5 σ5) else mb (vp_in (σ4 12 9) 60) (rt ((σ4 12 9) + 1) (up (up σ4 78 (σ4 12 9).toNatClampNeg x1) 12 9 ((σ4 12 9) + 1))))))
/-- TradeTestsModel.readsFault -/
def lp_146_124 : Nat → Int32 → Int32 → Int32 → Int32 → St → MR
  | 0, _, _, _, _, _ => bad
  | n + 1, v1, v2, v3, v4, σ => (if 4 ≤ v4 then mb ((1 : Int32) = 0 ∨ (1 : Int32) = 1) (rt 1 σ) else mb (vp_in (((4 : Int32) * v1) + v4) 28) (bn (sp_128 v4 v3 σ) (fun r9 σ9 => (if r9 = 0 then mb (vp_in (((4 : Int32) * v1) + v4) 28) (lp_146_124 n v1 v2 v3 (v4 + 1) (up σ9 76 (((4 : Int32) * v1) + v4).toNatClampNeg ((σ 76 (((4 : Int32) * v1) + v4).toNatClampNeg) ||| 0))) else mb (vp_in (((4 : Int32) * v1) + v4) 28) (lp_146_124 n v1 v2 v3 (v4 + 1) (up σ9 76 (((4 : Int32) * v1) + v4).toNatClampNeg ((σ 76 (((4 : Int32) * v1) + v4).toNatClampNeg) ||| ((1 : Int32) <<< (v2 &&& 31)))))))))
def lp_146_84 (v1 : Int32) (v2 : Int32) (v3 : Int32) (σ : St) : MR := (if 0 ≤ v3 then bn (sp_145  (up σ 12 45 ((σ 12 45) + 1))) (fun r10 σ10 => (if r10 = 59 then lp_146_124 FU v1 v2 v3 0 (up σ10 12 45 ((σ10 12 45) + 1)) else mb ((0 : Int32) = 0 ∨ (0 : Int32) = 1) (rt 0 σ10))) else mb ((0 : Int32) = 0 ∨ (0 : Int32) = 1) (rt 0 σ))
def sp_146 (x1 : Int32) (σ : St) : MR := bn (sp_145  σ) (fun r11 σ11 => bn (sp_123 (r11 - 48) 0 7 σ11) (fun r12 σ12 => (if r12 = 0 then mb ((0 : Int32) = 0 ∨ (0 : Int32) = 1) (rt 0 σ12) else bn (sp_145  (up σ12 12 45 ((σ12 12 45) + 1))) (fun r13 σ13 => (if r13 = 118 then lp_146_84 x1 (r11 - 48) 0 σ13 else bn (sp_145  σ13) (fun r14 σ14 => (if r14 = 99 then lp_146_84 x1 (r11 - 48) 1 σ14 else bn (sp_145  σ14) (fun r15 σ15 => (if r15 = 116 then lp_146_84 x1 (r11 - 48) 2 σ15 else bn (sp_145  σ15) (fun r16 σ16 => (if r16 = 114 then lp_146_84 x1 (r11 - 48) 3 σ16 else lp_146_84 x1 (r11 - 48) (-1) σ16)))))))))))
/-- TradeTestsModel.readsNumber -/
def lp_147_4 : Nat → Int32 → Int32 → Int32 → St → MR
  | 0, _, _, _, _ => bad
  | n + 1, v1, v2, v3, σ => (if v1 ≤ v3 then (if v3 = 0 then rt (-1) σ else bn (sp_145  σ) (fun r6 σ6 => (if r6 = 59 then rt v2 (up σ6 12 45 ((σ6 12 45) + 1)) else rt (-1) σ6))) else bn (sp_145  σ) (fun r7 σ7 => bn (sp_148 r7 σ7) (fun r8 σ8 => (if r8 = 0 then (if v3 = 0 then rt (-1) σ8 else bn (sp_145  σ8) (fun r9 σ9 => (if r9 = 59 then rt v2 (up σ9 12 45 ((σ9 12 45) + 1)) else rt (-1) σ9))) else bn (sp_145  σ8) (fun r10 σ10 => lp_147_4 n v1 ((((10 : Int32) * v2) + r10) - 48) (v3 + 1) (up σ10 12 45 ((σ10 12 45) + 1)))))))
def sp_147 (x1 : Int32) (σ : St) : MR := lp_147_4 FU x1 0 0 σ
/-- TradeTestsModel.isPass -/
def sp_152 (x1 : Int32) (σ : St) : MR := mb (vp_in x1 80) (bn (sp_150 (σ 61 (x1).toNatClampNeg) σ) (fun r2 σ2 => mb (vp_in x1 80) (mb (vp_in (σ2 59 (x1).toNatClampNeg) 24) ((if 0 ≤ r2 then mb (vp_in x1 80) (mb (vp_in (((4 : Int32) * r2) + (σ2 50 (σ2 59 (x1).toNatClampNeg).toNatClampNeg)) 28) ((if ((σ2 67 (x1).toNatClampNeg) &&& (σ2 76 (((4 : Int32) * r2) + (σ2 50 (σ2 59 (x1).toNatClampNeg).toNatClampNeg)).toNatClampNeg)) = 0 then (if (σ2 50 (σ2 59 (x1).toNatClampNeg).toNatClampNeg) = 3 then mb ((1 : Int32) = 0 ∨ (1 : Int32) = 1) (rt 1 σ2) else mb (vp_in x1 80) (mb (vp_in x1 80) ((if (σ2 66 (x1).toNatClampNeg) ≤ (σ2 65 (x1).toNatClampNeg) then mb (vp_in x1 80) (mb (vp_in x1 80) (mb (vp_in x1 80) ((if (σ2 66 (x1).toNatClampNeg) ≤ (σ2 65 (x1).toNatClampNeg) then mb (vp_in x1 80) (mb (vp_in r2 7) ((if (σ2 66 (x1).toNatClampNeg) < (σ2 74 (r2).toNatClampNeg) then mb ((0 : Int32) = 0 ∨ (0 : Int32) = 1) (rt 0 σ2) else mb (vp_in r2 7) ((if ((100 : Int32) * (σ2 66 (x1).toNatClampNeg)) < (((100 : Int32) - (σ2 75 (r2).toNatClampNeg)) * (σ2 65 (x1).toNatClampNeg)) then mb ((0 : Int32) = 0 ∨ (0 : Int32) = 1) (rt 0 σ2) else mb ((1 : Int32) = 0 ∨ (1 : Int32) = 1) (rt 1 σ2)))))) else mb (vp_in x1 80) (mb (vp_in r2 7) ((if (σ2 66 (x1).toNatClampNeg) < (σ2 74 (r2).toNatClampNeg) then mb ((0 : Int32) = 0 ∨ (0 : Int32) = 1) (rt 0 σ2) else mb (vp_in r2 7) ((if ((100 : Int32) * (σ2 66 (x1).toNatClampNeg)) < (((100 : Int32) - (σ2 75 (r2).toNatClampNeg)) * (σ2 66 (x1).toNatClampNeg)) then mb ((0 : Int32) = 0 ∨ (0 : Int32) = 1) (rt 0 σ2) else mb ((1 : Int32) = 0 ∨ (1 : Int32) = 1) (rt 1 σ2)))))))))) else mb (vp_in x1 80) (mb (vp_in x1 80) (mb (vp_in x1 80) ((if (σ2 66 (x1).toNatClampNeg) ≤ (σ2 65 (x1).toNatClampNeg) then mb (vp_in x1 80) (mb (vp_in r2 7) ((if (σ2 65 (x1).toNatClampNeg) < (σ2 74 (r2).toNatClampNeg) then mb ((0 : Int32) = 0 ∨ (0 : Int32) = 1) (rt 0 σ2) else mb (vp_in r2 7) ((if ((100 : Int32) * (σ2 65 (x1).toNatClampNeg)) < (((100 : Int32) - (σ2 75 (r2).toNatClampNeg)) * (σ2 65 (x1).toNatClampNeg)) then mb ((0 : Int32) = 0 ∨ (0 : Int32) = 1) (rt 0 σ2) else mb ((1 : Int32) = 0 ∨ (1 : Int32) = 1) (rt 1 σ2)))))) else mb (vp_in x1 80) (mb (vp_in r2 7) ((if (σ2 65 (x1).toNatClampNeg) < (σ2 74 (r2).toNatClampNeg) then mb ((0 : Int32) = 0 ∨ (0 : Int32) = 1) (rt 0 σ2) else mb (vp_in r2 7) ((if ((100 : Int32) * (σ2 65 (x1).toNatClampNeg)) < (((100 : Int32) - (σ2 75 (r2).toNatClampNeg)) * (σ2 66 (x1).toNatClampNeg)) then mb ((0 : Int32) = 0 ∨ (0 : Int32) = 1) (rt 0 σ2) else mb ((1 : Int32) = 0 ∨ (1 : Int32) = 1) (rt 1 σ2)))))))))))))) else mb ((0 : Int32) = 0 ∨ (0 : Int32) = 1) (rt 0 σ2)))) else mb ((1 : Int32) = 0 ∨ (1 : Int32) = 1) (rt 1 σ2))))))
/-- TradeTestsModel.shareOf -/
def lp_156_7 : Nat → Int32 → Int32 → Int32 → Int32 → St → MR
  | 0, _, _, _, _, _ => bad
  | n + 1, v1, v2, v3, v4, σ => (if (σ 12 4) ≤ v4 then (if v2 = 0 then rt (-1) σ else mb (¬ v2 = 0) (rt (((1000 : Int32) * v3) / v2) σ)) else bn (sp_157 v4 σ) (fun r2 σ2 => (if r2 = v1 then mb (vp_in v4 80) ((if (σ2 70 (v4).toNatClampNeg) = 0 then lp_156_7 n v1 (v2 + 1) (v3 + 0) (v4 + 1) σ2 else lp_156_7 n v1 (v2 + 1) (v3 + 1) (v4 + 1) σ2)) else lp_156_7 n v1 v2 v3 (v4 + 1) σ2)))
def sp_156 (x1 : Int32) (σ : St) : MR := lp_156_7 FU x1 0 0 0 σ
/-- TradeTestsModel.areNear -/
def sp_164 (x1 x2 x3 : Int32) (σ : St) : MR := bn (sp_123 (x1 - x2) (-x3) x3 σ) (fun r2 σ2 => mb (r2 = 0 ∨ r2 = 1) (rt r2 σ2))
/-- TradeTestsModel.isTyped -/
def lp_171_52 (ko : Int32 → Int32 → Int32 → Int32 → St → MR) : Nat → Int32 → Int32 → Int32 → Int32 → Int32 → Int32 → Int32 → St → MR
  | 0, _, _, _, _, _, _, _, _ => bad
  | n + 1, v0, v1, v2, v3, v4, v5, v6, σ => (if 10 ≤ v6 then ko v0 v1 v2 (v3 * 10) σ else (if v6 = v4 then lp_171_52 ko n v0 v1 v2 v3 v4 v5 (v6 + 1) σ else bn (sp_123 (v0 + ((v6 - v4) * v3)) v1 v2 σ) (fun r2 σ2 => (if r2 = 0 then lp_171_52 ko n v0 v1 v2 v3 v4 v5 (v6 + 1) σ2 else mb ((1 : Int32) = 0 ∨ (1 : Int32) = 1) (rt 1 σ2)))))
def lp_171_2 : Nat → Int32 → Int32 → Int32 → Int32 → St → MR
  | 0, _, _, _, _, _ => bad
  | n + 1, v0, v1, v2, v3, σ => (if v3 = 1 then mb (¬ v3 = 0) (mb (¬ (10 : Int32) = 0) (mb (¬ v3 = 0) ((if 10 ≤ (v0 / v3) then (if (0 : Int32) = 0 then lp_171_52 (fun v0 v1 v2 v3 σ => lp_171_2 n v0 v1 v2 v3 σ) FU v0 v1 v2 v3 ((v0 / v3) - (v0 / v3) / 10 * 10) 0 0 σ else (if v3 ≤ 1 then lp_171_52 (fun v0 v1 v2 v3 σ => lp_171_2 n v0 v1 v2 v3 σ) FU v0 v1 v2 v3 ((v0 / v3) - (v0 / v3) / 10 * 10) 0 0 σ else lp_171_52 (fun v0 v1 v2 v3 σ => lp_171_2 n v0 v1 v2 v3 σ) FU v0 v1 v2 v3 ((v0 / v3) - (v0 / v3) / 10 * 10) 0 1 σ)) else (if (1 : Int32) = 0 then lp_171_52 (fun v0 v1 v2 v3 σ => lp_171_2 n v0 v1 v2 v3 σ) FU v0 v1 v2 v3 ((v0 / v3) - (v0 / v3) / 10 * 10) 1 0 σ else (if v3 ≤ 1 then lp_171_52 (fun v0 v1 v2 v3 σ => lp_171_2 n v0 v1 v2 v3 σ) FU v0 v1 v2 v3 ((v0 / v3) - (v0 / v3) / 10 * 10) 1 0 σ else lp_171_52 (fun v0 v1 v2 v3 σ => lp_171_2 n v0 v1 v2 v3 σ) FU v0 v1 v2 v3 ((v0 / v3) - (v0 / v3) / 10 * 10) 1 1 σ)))))) else (if v0 < v3 then mb ((0 : Int32) = 0 ∨ (0 : Int32) = 1) (rt 0 σ) else mb (¬ v3 = 0) (mb (¬ (10 : Int32) = 0) (mb (¬ v3 = 0) ((if 10 ≤ (v0 / v3) then (if (0 : Int32) = 0 then lp_171_52 (fun v0 v1 v2 v3 σ => lp_171_2 n v0 v1 v2 v3 σ) FU v0 v1 v2 v3 ((v0 / v3) - (v0 / v3) / 10 * 10) 0 0 σ else (if v3 ≤ 1 then lp_171_52 (fun v0 v1 v2 v3 σ => lp_171_2 n v0 v1 v2 v3 σ) FU v0 v1 v2 v3 ((v0 / v3) - (v0 / v3) / 10 * 10) 0 0 σ else lp_171_52 (fun v0 v1 v2 v3 σ => lp_171_2 n v0 v1 v2 v3 σ) FU v0 v1 v2 v3 ((v0 / v3) - (v0 / v3) / 10 * 10) 0 1 σ)) else (if (1 : Int32) = 0 then lp_171_52 (fun v0 v1 v2 v3 σ => lp_171_2 n v0 v1 v2 v3 σ) FU v0 v1 v2 v3 ((v0 / v3) - (v0 / v3) / 10 * 10) 1 0 σ else (if v3 ≤ 1 then lp_171_52 (fun v0 v1 v2 v3 σ => lp_171_2 n v0 v1 v2 v3 σ) FU v0 v1 v2 v3 ((v0 / v3) - (v0 / v3) / 10 * 10) 1 0 σ else lp_171_52 (fun v0 v1 v2 v3 σ => lp_171_2 n v0 v1 v2 v3 σ) FU v0 v1 v2 v3 ((v0 / v3) - (v0 / v3) / 10 * 10) 1 1 σ))))))))
def sp_171 (x1 x2 x3 : Int32) (σ : St) : MR := lp_171_2 FU x1 x2 x3 1 σ
/-- TradeTestsModel.rule -/
def lp_172_108 (v1 : Int32) (v2 : Int32) (v3 : Int32) (σ : St) : MR := (if v1 = 2 then rt v3 (up σ 12 13 v2) else rt v3 (up σ 12 13 (σ 12 13)))
def lp_172_91 (v1 : Int32) (v2 : Int32) (v3 : Int32) (σ : St) : MR := (if v1 = 1 then lp_172_108 v1 v2 v3 (up σ 12 12 v2) else lp_172_108 v1 v2 v3 (up σ 12 12 (σ 12 12)))
def lp_172_75 (v1 : Int32) (v2 : Int32) (v3 : Int32) (σ : St) : MR := (if v1 = 0 then lp_172_91 v1 v2 v3 (up σ 12 11 v2) else lp_172_91 v1 v2 v3 (up σ 12 11 (σ 12 11)))
def lp_172_47 (v1 : Int32) (v2 : Int32) (σ : St) : MR := (if v1 = 0 then lp_172_75 v1 v2 (σ 12 11) σ else (if v1 = 1 then lp_172_75 v1 v2 (σ 12 12) σ else lp_172_75 v1 v2 (σ 12 13) σ))
def sp_172 (x1 x2 : Int32) (σ : St) : MR := bn (sp_123 x1 0 2 σ) (fun r9 σ9 => (if r9 = 0 then bn (sp_125 1 σ9) (fun r10 σ10 => rt r10 σ10) else (if x1 = 0 then bn (sp_123 x2 1 3650 σ9) (fun r15 σ15 => (if r15 = 0 then bn (sp_125 1 σ15) (fun r16 σ16 => rt r16 σ16) else lp_172_47 x1 x2 σ15)) else (if x1 = 1 then bn (sp_123 x2 1 1000 σ9) (fun r13 σ13 => (if r13 = 0 then bn (sp_125 1 σ13) (fun r14 σ14 => rt r14 σ14) else lp_172_47 x1 x2 σ13)) else bn (sp_123 x2 1 200 σ9) (fun r11 σ11 => (if r11 = 0 then bn (sp_125 1 σ11) (fun r12 σ12 => rt r12 σ12) else lp_172_47 x1 x2 σ11))))))
/-- TradeTestsModel.missed -/
def sp_176 (x1 : Int32) (σ : St) : MR := mb (vp_in x1 80) (bn (sp_150 (σ 61 (x1).toNatClampNeg) σ) (fun r2 σ2 => mb (vp_in x1 80) ((if (σ2 68 (x1).toNatClampNeg) < 0 then rt 0 σ2 else (if 0 ≤ r2 then mb (vp_in x1 80) (mb (vp_in (σ2 68 (x1).toNatClampNeg) 6) (mb (vp_in x1 80) (mb (vp_in (((4 : Int32) * r2) + 1) 28) (rt (((σ2 77 (σ2 68 (x1).toNatClampNeg).toNatClampNeg) &&& ((σ2 67 (x1).toNatClampNeg) ^^^ (-1))) &&& (σ2 76 (((4 : Int32) * r2) + 1).toNatClampNeg)) σ2)))) else rt 0 σ2)))))
/-- TradeTestsModel.sumOf -/
def lp_179_5 : Nat → Int32 → Int32 → Int32 → Int32 → St → MR
  | 0, _, _, _, _, _ => bad
  | n + 1, v1, v2, v3, v4, σ => (if (σ 12 4) ≤ v4 then rt v3 σ else mb (vp_in v4 80) ((if (σ 60 (v4).toNatClampNeg) = v1 then mb (vp_in v4 80) (bn (sp_123 (σ 61 (v4).toNatClampNeg) ((v2 - (σ 12 11)) + 1) v2 σ) (fun r2 σ2 => (if r2 = 0 then lp_179_5 n v1 v2 (v3 + 0) (v4 + 1) σ2 else mb (vp_in v4 80) (lp_179_5 n v1 v2 (v3 + (σ2 81 (v4).toNatClampNeg)) (v4 + 1) σ2)))) else lp_179_5 n v1 v2 (v3 + 0) (v4 + 1) σ)))
def sp_179 (x1 x2 : Int32) (σ : St) : MR := lp_179_5 FU x1 x2 0 0 σ
/-- TradeTestsModel.secret -/
def sp_181 (x1 : Int32) (σ : St) : MR := bn (sp_123 x1 1 255 σ) (fun r4 σ4 => (if r4 = 0 then bn (sp_125 1 σ4) (fun r6 σ6 => rt r6 σ6) else (if (σ4 12 6) = 6 then bn (sp_125 4 σ4) (fun r5 σ5 => rt r5 σ5) else mb (vp_in (σ4 12 6) 6) (rt (((σ4 12 6) + 1) - 1) (up (up σ4 77 (σ4 12 6).toNatClampNeg x1) 12 6 ((σ4 12 6) + 1))))))
/-- TradeTestsModel.error -/
def lp_188_19 : Nat → Int32 → Int32 → Int32 → St → MR
  | 0, _, _, _, _ => bad
  | n + 1, v1, v2, v3, σ => (if (σ 12 4) ≤ v3 then mb (¬ v1.toInt64 = 0) (rt ((((Int32.toInt64 1000) * v2.toInt64) / v1.toInt64).toInt32) σ) else mb (vp_in v3 80) ((if (σ 69 (v3).toNatClampNeg) = 0 then mb (vp_in v3 80) ((if (σ 72 (v3).toNatClampNeg) = 0 then lp_188_19 n (v1 + 0) (v2 + 0) (v3 + 1) σ else lp_188_19 n (v1 + 0) (v2 + 0) (v3 + 1) σ)) else mb (vp_in v3 80) (mb (¬ (σ 69 (v3).toNatClampNeg) = 0) (mb (vp_in v3 80) ((if (σ 72 (v3).toNatClampNeg) = 0 then lp_188_19 n (v1 + ((10000 : Int32) / (σ 69 (v3).toNatClampNeg))) (v2 + 0) (v3 + 1) σ else lp_188_19 n (v1 + ((10000 : Int32) / (σ 69 (v3).toNatClampNeg))) (v2 + ((10000 : Int32) / (σ 69 (v3).toNatClampNeg))) (v3 + 1) σ)))))))
def sp_188 (σ : St) : MR := (if (σ 12 8) = 0 then bn (sp_125 2 σ) (fun r2 σ2 => rt r2 σ2) else lp_188_19 FU 0 0 0 σ)
/-- TradeTestsModel.tell -/
def sp_191 (x1 : Int32) (σ : St) : MR := (if (σ 12 10) = 8 then bn (sp_125 4 σ) (fun r2 σ2 => rt r2 σ2) else mb (vp_in (σ 12 10) 8) (rt ((σ 12 10) + 1) (up (up σ 79 (σ 12 10).toNatClampNeg x1) 12 10 ((σ 12 10) + 1))))
/-- TradeTestsModel.found -/
def sp_194 (x1 : Int32) (σ : St) : MR := bn (sp_123 x1 1 5 σ) (fun r3 σ3 => (if r3 = 0 then bn (sp_125 1 σ3) (fun r4 σ4 => rt r4 σ4) else mb (vp_in x1 6) (rt (σ3 80 (x1).toNatClampNeg) σ3)))
/-- TradeTests.test -/
def sp_16 (x1 x2 x3 x4 x5 : Int32) (σ : St) : MR := bn (sp_17 x1 σ) (fun r13 σ13 => (if r13 = 0 then bn (sp_2 1 σ13) (fun r14 σ14 => rt r14 σ14) else bn (sp_18 x1 x2 σ13) (fun r15 σ15 => (if r15 = 0 then bn (sp_2 1 σ15) (fun r16 σ16 => rt r16 σ16) else bn (sp_20 x2 x3 σ15) (fun r17 σ17 => (if r17 = 0 then bn (sp_2 1 σ17) (fun r24 σ24 => rt r24 σ24) else bn (sp_21 x1 x4 σ17) (fun r18 σ18 => (if r18 = 0 then bn (sp_2 1 σ18) (fun r19 σ19 => rt r19 σ19) else bn (sp_1 x5 1000000 σ18) (fun r20 σ20 => (if r20 = 0 then bn (sp_2 1 σ20) (fun r23 σ23 => rt r23 σ23) else (if (σ20 3 14) < 80 then bn (sp_22 x1 x2 x3 x4 x5 σ20) (fun r21 σ21 => rt r21 σ21) else bn (sp_2 4 σ20) (fun r22 σ22 => rt r22 σ22))))))))))))
/-- TradeTests.of -/
def sp_23 (x1 x2 : Int32) (σ : St) : MR := bn (sp_1 x1 (σ 3 14) σ) (fun r7 σ7 => (if r7 = 0 then bn (sp_2 1 σ7) (fun r8 σ8 => rt r8 σ8) else bn (sp_1 x2 11 σ7) (fun r9 σ9 => (if r9 = 0 then bn (sp_2 1 σ9) (fun r12 σ12 => rt r12 σ12) else (if x2 = 10 then bn (sp_24 x1 σ9) (fun r11 σ11 => rt r11 σ11) else bn (sp_25 x1 x2 σ9) (fun r10 σ10 => rt r10 σ10))))))
/-- TradeTests$Texts.readFault -/
def lp_34_69 : Nat → Int32 → Int32 → Int32 → St → MR
  | 0, _, _, _, _ => bad
  | n + 1, v1, v2, v3, σ => (if 4 ≤ v3 then mb ((1 : Int32) = 0 ∨ (1 : Int32) = 1) (rt 1 σ) else bn (sp_5 v3 v2 σ) (fun r8 σ8 => (if r8 = 0 then lp_34_69 n v1 v2 (v3 + 1) σ8 else mb (vp_in (((σ8 4 7) * 4) + v3) 24) (mb (vp_in (((σ8 4 7) * 4) + v3) 24) (lp_34_69 n v1 v2 (v3 + 1) (up σ8 42 (((σ8 4 7) * 4) + v3).toNatClampNeg ((σ8 42 (((σ8 4 7) * 4) + v3).toNatClampNeg) ||| v1)))))))
def sp_34 (σ : St) : MR := bn (sp_33  σ) (fun r9 σ9 => bn (sp_35 r9 55 σ9) (fun r10 σ10 => (if r10 = 0 then mb ((0 : Int32) = 0 ∨ (0 : Int32) = 1) (rt 0 σ10) else bn (sp_33  σ10) (fun r11 σ11 => bn (sp_33  (up σ11 4 2 ((σ11 4 2) + 1))) (fun r12 σ12 => bn (sp_36 r12 σ12) (fun r13 σ13 => (if 0 ≤ r13 then bn (sp_37  (up σ13 4 2 ((σ13 4 2) + 1))) (fun r14 σ14 => (if r14 = 0 then mb ((0 : Int32) = 0 ∨ (0 : Int32) = 1) (rt 0 σ14) else lp_34_69 FU ((1 : Int32) <<< ((r11 - 48) &&& 31)) r13 0 σ14)) else mb ((0 : Int32) = 0 ∨ (0 : Int32) = 1) (rt 0 σ13))))))))
/-- TradeTests$Texts.readNumber -/
def lp_38_4 : Nat → Int32 → Int32 → Int32 → St → MR
  | 0, _, _, _, _ => bad
  | n + 1, v1, v2, v3, σ => (if v1 ≤ v3 then (if v3 ≤ 0 then rt (-1) σ else bn (sp_37  σ) (fun r6 σ6 => (if r6 = 0 then rt (-1) σ6 else rt v2 σ6))) else bn (sp_33  σ) (fun r7 σ7 => bn (sp_35 r7 57 σ7) (fun r8 σ8 => (if r8 = 0 then (if v3 ≤ 0 then rt (-1) σ8 else bn (sp_37  σ8) (fun r9 σ9 => (if r9 = 0 then rt (-1) σ9 else rt v2 σ9))) else bn (sp_33  σ8) (fun r10 σ10 => lp_38_4 n v1 (((v2 * 10) + r10) - 48) (v3 + 1) (up σ10 4 2 ((σ10 4 2) + 1)))))))
def sp_38 (x1 : Int32) (σ : St) : MR := lp_38_4 FU x1 0 0 σ
/-- TradeTests.verdict -/
def sp_42 (x1 : Int32) (σ : St) : MR := bn (sp_1 x1 (σ 3 14) σ) (fun r4 σ4 => (if r4 = 0 then bn (sp_2 1 σ4) (fun r6 σ6 => rt r6 σ6) else bn (sp_43 x1 σ4) (fun r5 σ5 => (if r5 = 0 then rt 0 σ5 else rt 1 σ5))))
/-- TradeTests$Judge.unlikeness -/
def sp_46 (x1 : Int32) (σ : St) : MR := mb (vp_in x1 80) ((if (σ 33 (x1).toNatClampNeg) = 1 then bn (sp_43 x1 σ) (fun r4 σ4 => (if (1 : Int32) = r4 then rt 0 σ4 else (if (1 : Int32) = 0 then rt 2 σ4 else rt 1 σ4))) else bn (sp_43 x1 σ) (fun r3 σ3 => (if (0 : Int32) = r3 then rt 0 σ3 else (if (0 : Int32) = 0 then rt 2 σ3 else rt 1 σ3)))))
/-- TradeTests$Signals.alikeTests -/
def lp_51_4 : Nat → Int32 → Int32 → Int32 → St → MR
  | 0, _, _, _, _ => bad
  | n + 1, v1, v2, v3, σ => (if (σ 3 14) ≤ v3 then rt v2 σ else mb (vp_in v3 80) (mb (vp_in v1 80) ((if (σ 25 (v3).toNatClampNeg) = (σ 25 (v1).toNatClampNeg) then bn (sp_52 v3 v1 σ) (fun r2 σ2 => (if r2 = 0 then lp_51_4 n v1 v2 (v3 + 1) σ2 else lp_51_4 n v1 (v2 + 1) (v3 + 1) σ2)) else lp_51_4 n v1 v2 (v3 + 1) σ))))
def sp_51 (x1 : Int32) (σ : St) : MR := lp_51_4 FU x1 0 0 σ
/-- TradeTests$Signals.isShut -/
def sp_57 (x1 : Int32) (σ : St) : MR := bn (sp_24 x1 σ) (fun r2 σ2 => mb (vp_in x1 80) (mb (vp_in r2 6) ((if (σ2 27 (x1).toNatClampNeg) < (σ2 18 (r2).toNatClampNeg) then mb ((1 : Int32) = 0 ∨ (1 : Int32) = 1) (rt 1 σ2) else mb (vp_in x1 80) (mb (vp_in x1 80) (mb (vp_in r2 6) ((if ((σ2 27 (x1).toNatClampNeg) + (σ2 28 (x1).toNatClampNeg)) ≤ (σ2 19 (r2).toNatClampNeg) then mb ((0 : Int32) = 0 ∨ (0 : Int32) = 1) (rt 0 σ2) else mb ((1 : Int32) = 0 ∨ (1 : Int32) = 1) (rt 1 σ2)))))))))
/-- TradeTests$Judge.isFalsePass -/
def sp_58 (x1 : Int32) (σ : St) : MR := mb (vp_in x1 80) ((if (σ 33 (x1).toNatClampNeg) = 1 then bn (sp_43 x1 σ) (fun r2 σ2 => (if r2 = 0 then mb ((1 : Int32) = 0 ∨ (1 : Int32) = 1) (rt 1 σ2) else mb ((0 : Int32) = 0 ∨ (0 : Int32) = 1) (rt 0 σ2))) else mb ((0 : Int32) = 0 ∨ (0 : Int32) = 1) (rt 0 σ)))
/-- TradeTests$Rates.fillCells -/
def lp_63_30 : Nat → Int32 → St → MR
  | 0, _, _ => bad
  | n + 1, v1, σ => (if (σ 3 14) ≤ v1 then rt 0 σ else bn (sp_64 v1 σ) (fun r2 σ2 => mb (vp_in r2 16) (mb (vp_in r2 16) (mb (vp_in r2 16) (mb (vp_in v1 80) (mb (vp_in r2 16) (lp_63_30 n (v1 + 1) (up (up σ2 43 (r2).toNatClampNeg ((σ2 43 (r2).toNatClampNeg) + 1)) 44 (r2).toNatClampNeg ((σ2 44 (r2).toNatClampNeg) + (σ2 33 (v1).toNatClampNeg))))))))))
def lp_63_2 : Nat → Int32 → St → MR
  | 0, _, _ => bad
  | n + 1, v1, σ => (if 16 ≤ v1 then lp_63_30 FU 0 σ else mb (vp_in v1 16) (mb (vp_in v1 16) (lp_63_2 n (v1 + 1) (up (up σ 43 (v1).toNatClampNeg 0) 44 (v1).toNatClampNeg 0))))
def sp_63 (σ : St) : MR := lp_63_2 FU 0 σ
/-- TradeTests$Rates.measure -/
def lp_66_22 : Nat → Int32 → Int32 → St → MR
  | 0, _, _, _ => bad
  | n + 1, v1, v2, σ => (if (σ 3 14) ≤ v2 then rt 0 σ else bn (sp_24 v2 σ) (fun r4 σ4 => (if r4 = v1 then bn (sp_64 v2 σ4) (fun r5 σ5 => bn (sp_67 r5 σ5) (fun r6 σ6 => mb (vp_in v2 80) (lp_66_22 n v1 (v2 + 1) (up (up (up (up σ6 7 5 ((σ6 7 5) + 1)) 7 6 ((σ6 7 6) + (σ6 33 (v2).toNatClampNeg))) 7 7 ((σ6 7 7) + r6)) 7 8 ((σ6 7 8) + (r6 * ((1000 : Int32) - r6))))))) else lp_66_22 n v1 (v2 + 1) σ4)))
def sp_66 (x1 : Int32) (σ : St) : MR := lp_66_22 FU x1 0 (up (up (up (up σ 7 5 0) 7 6 0) 7 7 0) 7 8 0)
/-- TradeTests$Rates.garagesWithTests -/
def lp_70_4 : Nat → Int32 → Int32 → St → MR
  | 0, _, _, _ => bad
  | n + 1, v1, v2, σ => (if (σ 3 14) ≤ v2 then bn (sp_59 v1 σ) (fun r3 σ3 => rt r3 σ3) else bn (sp_24 v2 σ) (fun r4 σ4 => lp_70_4 n (v1 ||| ((1 : Int32) <<< (r4 &&& 31))) (v2 + 1) σ4))
def sp_70 (σ : St) : MR := lp_70_4 FU 0 0 σ
/-- TradeTests.falls -/
def sp_75 (x1 : Int32) (σ : St) : MR := bn (sp_1 x1 (σ 3 14) σ) (fun r5 σ5 => (if r5 = 0 then bn (sp_2 1 σ5) (fun r8 σ8 => rt r8 σ8) else mb (vp_in x1 80) (mb (vp_in (σ5 24 (x1).toNatClampNeg) 24) ((if (σ5 15 (σ5 24 (x1).toNatClampNeg).toNatClampNeg) = 3 then bn (sp_2 5 σ5) (fun r7 σ7 => rt r7 σ7) else bn (sp_76 x1 σ5) (fun r6 σ6 => rt r6 σ6))))))
/-- TradeTests.rule -/
def sp_80 (x1 x2 : Int32) (σ : St) : MR := bn (sp_81 x1 x2 σ) (fun r4 σ4 => (if r4 = 0 then bn (sp_2 1 σ4) (fun r6 σ6 => rt r6 σ6) else bn (sp_82 x1 x2 σ4) (fun r5 σ5 => rt r5 σ5)))
/-- TradeTests$Secrets.missed -/
def sp_86 (x1 : Int32) (σ : St) : MR := mb (vp_in x1 80) (bn (sp_40 (σ 26 (x1).toNatClampNeg) σ) (fun r4 σ4 => (if 0 ≤ r4 then bn (sp_60 x1 σ4) (fun r5 σ5 => mb (vp_in x1 80) (bn (sp_41 r4 1 σ5) (fun r6 σ6 => rt ((r5 &&& ((σ5 32 (x1).toNatClampNeg) ^^^ (-1))) &&& r6) σ6))) else rt 0 σ4)))
/-- TradeTests$Plan.fillBest -/
def lp_102_16 (ko : Int32 → St → MR) : Nat → Int32 → Int32 → St → MR
  | 0, _, _, _ => bad
  | n + 1, v1, v2, σ => (if 64 ≤ v2 then ko (v1 + (-1)) σ else bn (sp_103 v1 v2 σ) (fun r2 σ2 => mb (vp_in ((v1 * 64) + v2) 448) (lp_102_16 ko n v1 (v2 + 1) (up σ2 49 ((v1 * 64) + v2).toNatClampNeg r2))))
def lp_102_10 : Nat → Int32 → St → MR
  | 0, _, _ => bad
  | n + 1, v1, σ => (if v1 < 0 then rt 0 σ else lp_102_16 (fun v1 σ => lp_102_10 n v1 σ) FU v1 0 σ)
def sp_102 (σ : St) : MR := lp_102_10 FU ((σ 9 3) - 1) σ
/-- TradeTests$Plan.garageFor -/
def lp_108_7 : Nat → Int32 → Int32 → Int32 → Int32 → St → MR
  | 0, _, _, _, _, _ => bad
  | n + 1, v1, v2, v3, v4, σ => (if v1 < v4 then rt v3 σ else bn (sp_109 v4 v2 σ) (fun r2 σ2 => (if 0 ≤ r2 then lp_108_7 n v1 (v2 ||| ((1 : Int32) <<< (r2 &&& 31))) r2 (v4 + 1) σ2 else lp_108_7 n v1 v2 r2 (v4 + 1) σ2)))
def sp_108 (x1 : Int32) (σ : St) : MR := lp_108_7 FU x1 0 (-1) 0 σ
/-- TradeTestsModel.vehicle -/
def sp_122 (x1 x2 x3 : Int32) (σ : St) : MR := bn (sp_123 x1 0 3 σ) (fun r8 σ8 => (if r8 = 0 then bn (sp_125 1 σ8) (fun r9 σ9 => rt r9 σ9) else bn (sp_123 x2 0 3 σ8) (fun r10 σ10 => (if r10 = 0 then bn (sp_125 1 σ10) (fun r11 σ11 => rt r11 σ11) else bn (sp_124 x3 σ10) (fun r12 σ12 => (if r12 = 0 then bn (sp_125 1 σ12) (fun r14 σ14 => rt r14 σ14) else (if (σ12 12 0) = 24 then bn (sp_125 4 σ12) (fun r13 σ13 => rt r13 σ13) else mb (vp_in (σ12 12 0) 24) (mb (vp_in (σ12 12 0) 24) (mb (vp_in (σ12 12 0) 24) (rt (((σ12 12 0) + 1) - 1) (up (up (up (up σ12 50 (σ12 12 0).toNatClampNeg x1) 51 (σ12 12 0).toNatClampNeg x2) 52 (σ12 12 0).toNatClampNeg x3) 12 0 ((σ12 12 0) + 1))))))))))))
/-- TradeTestsModel.as -/
def sp_126 (x1 x2 : Int32) (σ : St) : MR := bn (sp_127 x1 σ) (fun r8 σ8 => (if r8 = 0 then bn (sp_125 1 σ8) (fun r9 σ9 => rt r9 σ9) else bn (sp_123 x2 0 3 σ8) (fun r10 σ10 => (if r10 = 0 then bn (sp_125 1 σ10) (fun r14 σ14 => rt r14 σ14) else mb (vp_in x1 24) (bn (sp_128 (σ10 50 (x1).toNatClampNeg) x2 σ10) (fun r11 σ11 => (if r11 = 0 then bn (sp_125 5 σ11) (fun r12 σ12 => rt r12 σ12) else bn (sp_129 x1 σ11) (fun r13 σ13 => rt r13 σ13))))))))
/-- TradeTestsModel.tester -/
def sp_131 (x1 : Int32) (σ : St) : MR := bn (sp_132 x1 σ) (fun r4 σ4 => (if r4 = 0 then bn (sp_125 1 σ4) (fun r6 σ6 => rt r6 σ6) else (if (σ4 12 2) = 8 then bn (sp_125 4 σ4) (fun r5 σ5 => rt r5 σ5) else mb (vp_in (σ4 12 2) 8) (rt (((σ4 12 2) + 1) - 1) (up (up σ4 55 (σ4 12 2).toNatClampNeg x1) 12 2 ((σ4 12 2) + 1))))))
/-- TradeTestsModel.move -/
def lp_133_32 : Nat → Int32 → Int32 → Int32 → Int32 → St → MR
  | 0, _, _, _, _, _ => bad
  | n + 1, v1, v2, v3, v4, σ => (if (σ 12 3) ≤ v4 then (if (σ 12 3) = 30 then bn (sp_125 4 σ) (fun r11 σ11 => rt r11 σ11) else bn (sp_135 v1 (v3 - 1) σ) (fun r10 σ10 => mb (vp_in (σ10 12 3) 30) (mb (vp_in (σ10 12 3) 30) (mb (vp_in (σ10 12 3) 30) (rt r10 (up (up (up (up σ10 56 (σ10 12 3).toNatClampNeg v1) 57 (σ10 12 3).toNatClampNeg v2) 58 (σ10 12 3).toNatClampNeg v3) 12 3 ((σ10 12 3) + 1))))))) else mb (vp_in v4 30) ((if (σ 56 (v4).toNatClampNeg) = v1 then mb (vp_in v4 30) ((if (σ 58 (v4).toNatClampNeg) ≤ v3 then lp_133_32 n v1 v2 v3 (v4 + 1) σ else bn (sp_125 1 σ) (fun r12 σ12 => rt r12 σ12))) else lp_133_32 n v1 v2 v3 (v4 + 1) σ)))
def sp_133 (x1 x2 x3 : Int32) (σ : St) : MR := bn (sp_134 x1 σ) (fun r13 σ13 => (if r13 = 0 then bn (sp_125 1 σ13) (fun r14 σ14 => rt r14 σ14) else bn (sp_132 x2 σ13) (fun r15 σ15 => (if r15 = 0 then bn (sp_125 1 σ15) (fun r16 σ16 => rt r16 σ16) else bn (sp_124 x3 σ15) (fun r17 σ17 => (if r17 = 0 then bn (sp_125 1 σ17) (fun r18 σ18 => rt r18 σ18) else lp_133_32 FU x1 x2 x3 0 σ17))))))
/-- TradeTestsModel.at -/
def sp_136 (x1 x2 : Int32) (σ : St) : MR := bn (sp_134 x1 σ) (fun r6 σ6 => (if r6 = 0 then bn (sp_125 1 σ6) (fun r7 σ7 => rt r7 σ7) else bn (sp_124 x2 σ6) (fun r8 σ8 => (if r8 = 0 then bn (sp_125 1 σ8) (fun r9 σ9 => rt r9 σ9) else bn (sp_135 x1 x2 σ8) (fun r10 σ10 => rt r10 σ10)))))
/-- TradeTestsModel.isTold -/
def sp_138 (x1 x2 x3 x4 x5 : Int32) (σ : St) : MR := (if x1 < 0 then mb ((0 : Int32) = 0 ∨ (0 : Int32) = 1) (rt 0 σ) else (if x2 < 0 then mb ((0 : Int32) = 0 ∨ (0 : Int32) = 1) (rt 0 σ) else (if x3 < 0 then mb ((0 : Int32) = 0 ∨ (0 : Int32) = 1) (rt 0 σ) else (if x5 < 0 then mb ((0 : Int32) = 0 ∨ (0 : Int32) = 1) (rt 0 σ) else mb (¬ (100 : Int32) = 0) (bn (sp_127 (x1 / 100) σ) (fun r9 σ9 => (if r9 = 0 then mb ((0 : Int32) = 0 ∨ (0 : Int32) = 1) (rt 0 σ9) else mb (¬ (100 : Int32) = 0) (bn (sp_134 (x1 - x1 / 100 * 100) σ9) (fun r10 σ10 => (if r10 = 0 then mb ((0 : Int32) = 0 ∨ (0 : Int32) = 1) (rt 0 σ10) else mb (¬ (10000 : Int32) = 0) (mb (¬ (100 : Int32) = 0) (mb (vp_in (x1 / 100) 24) ((if (x2 - x2 / 10000 * 10000) < (σ10 52 (x1 / 100).toNatClampNeg) then mb ((0 : Int32) = 0 ∨ (0 : Int32) = 1) (rt 0 σ10) else (if (σ10 12 4) ≤ 0 then mb (¬ (10000 : Int32) = 0) ((if 1439 < (x2 / 10000) then mb ((0 : Int32) = 0 ∨ (0 : Int32) = 1) (rt 0 σ10) else mb (¬ (1000 : Int32) = 0) (bn (sp_123 (x3 / 1000) 1 240 σ10) (fun r11 σ11 => (if r11 = 0 then mb ((0 : Int32) = 0 ∨ (0 : Int32) = 1) (rt 0 σ11) else mb (¬ (1000 : Int32) = 0) ((if 511 < (x3 - x3 / 1000 * 1000) then mb ((0 : Int32) = 0 ∨ (0 : Int32) = 1) (rt 0 σ11) else mb (¬ (10000 : Int32) = 0) (mb (¬ (1000 : Int32) = 0) ((if ((x2 / 10000) + (x3 / 1000)) ≤ 1440 then mb (¬ (100 : Int32) = 0) (mb (vp_in (x1 / 100) 24) ((if (σ11 50 (x1 / 100).toNatClampNeg) = 3 then bn (sp_123 x4 0 0 σ11) (fun r13 σ13 => (if r13 = 0 then mb ((0 : Int32) = 0 ∨ (0 : Int32) = 1) (rt 0 σ13) else (if 1000000 ≤ x5 then mb ((0 : Int32) = 0 ∨ (0 : Int32) = 1) (rt 0 σ13) else mb ((1 : Int32) = 0 ∨ (1 : Int32) = 1) (rt 1 σ13)))) else bn (sp_123 x4 0 999999 σ11) (fun r12 σ12 => (if r12 = 0 then mb ((0 : Int32) = 0 ∨ (0 : Int32) = 1) (rt 0 σ12) else (if 1000000 ≤ x5 then mb ((0 : Int32) = 0 ∨ (0 : Int32) = 1) (rt 0 σ12) else mb ((1 : Int32) = 0 ∨ (1 : Int32) = 1) (rt 1 σ12))))))) else mb ((0 : Int32) = 0 ∨ (0 : Int32) = 1) (rt 0 σ11))))))))))) else mb (vp_in ((σ10 12 4) - 1) 80) ((if (σ10 61 ((σ10 12 4) - 1).toNatClampNeg) ≤ (x2 - x2 / 10000 * 10000) then mb (¬ (10000 : Int32) = 0) ((if 1439 < (x2 / 10000) then mb ((0 : Int32) = 0 ∨ (0 : Int32) = 1) (rt 0 σ10) else mb (¬ (1000 : Int32) = 0) (bn (sp_123 (x3 / 1000) 1 240 σ10) (fun r14 σ14 => (if r14 = 0 then mb ((0 : Int32) = 0 ∨ (0 : Int32) = 1) (rt 0 σ14) else mb (¬ (1000 : Int32) = 0) ((if 511 < (x3 - x3 / 1000 * 1000) then mb ((0 : Int32) = 0 ∨ (0 : Int32) = 1) (rt 0 σ14) else mb (¬ (10000 : Int32) = 0) (mb (¬ (1000 : Int32) = 0) ((if ((x2 / 10000) + (x3 / 1000)) ≤ 1440 then mb (¬ (100 : Int32) = 0) (mb (vp_in (x1 / 100) 24) ((if (σ14 50 (x1 / 100).toNatClampNeg) = 3 then bn (sp_123 x4 0 0 σ14) (fun r16 σ16 => (if r16 = 0 then mb ((0 : Int32) = 0 ∨ (0 : Int32) = 1) (rt 0 σ16) else (if 1000000 ≤ x5 then mb ((0 : Int32) = 0 ∨ (0 : Int32) = 1) (rt 0 σ16) else mb ((1 : Int32) = 0 ∨ (1 : Int32) = 1) (rt 1 σ16)))) else bn (sp_123 x4 0 999999 σ14) (fun r15 σ15 => (if r15 = 0 then mb ((0 : Int32) = 0 ∨ (0 : Int32) = 1) (rt 0 σ15) else (if 1000000 ≤ x5 then mb ((0 : Int32) = 0 ∨ (0 : Int32) = 1) (rt 0 σ15) else mb ((1 : Int32) = 0 ∨ (1 : Int32) = 1) (rt 1 σ15))))))) else mb ((0 : Int32) = 0 ∨ (0 : Int32) = 1) (rt 0 σ14))))))))))) else mb ((0 : Int32) = 0 ∨ (0 : Int32) = 1) (rt 0 σ10))))))))))))))))))
/-- TradeTestsModel.of -/
def sp_139 (x1 x2 : Int32) (σ : St) : MR := bn (sp_140 x1 σ) (fun r5 σ5 => (if r5 = 0 then bn (sp_125 1 σ5) (fun r8 σ8 => rt r8 σ8) else (if x2 = 0 then mb (vp_in x1 80) (rt (σ5 59 (x1).toNatClampNeg) σ5) else (if x2 = 1 then mb (vp_in x1 80) (rt (σ5 60 (x1).toNatClampNeg) σ5) else (if x2 = 2 then mb (vp_in x1 80) (rt (σ5 61 (x1).toNatClampNeg) σ5) else (if x2 = 3 then mb (vp_in x1 80) (rt (σ5 62 (x1).toNatClampNeg) σ5) else (if x2 = 4 then mb (vp_in x1 80) (rt (σ5 63 (x1).toNatClampNeg) σ5) else (if x2 = 5 then mb (vp_in x1 80) (rt (σ5 64 (x1).toNatClampNeg) σ5) else (if x2 = 6 then mb (vp_in x1 80) (rt (σ5 65 (x1).toNatClampNeg) σ5) else (if x2 = 7 then mb (vp_in x1 80) (rt (σ5 66 (x1).toNatClampNeg) σ5) else (if x2 = 8 then mb (vp_in x1 80) (rt (σ5 67 (x1).toNatClampNeg) σ5) else (if x2 = 9 then mb (vp_in x1 80) ((if (σ5 70 (x1).toNatClampNeg) = 0 then rt 0 σ5 else rt 1 σ5)) else (if x2 = 10 then bn (sp_141 x1 σ5) (fun r7 σ7 => rt r7 σ7) else bn (sp_125 1 σ5) (fun r6 σ6 => rt r6 σ6))))))))))))))
/-- TradeTestsModel.reads -/
def lp_144_155 (ko : Int32 → Int32 → St → MR) (v1 : Int32) (v2 : Int32) (v3 : Int32) (σ : St) : MR := (if v2 = 100 then mb (vp_in v1 7) (ko v1 v2 (up σ 75 (v1).toNatClampNeg v3)) else mb (vp_in v1 7) (mb (vp_in v1 7) (ko v1 v2 (up σ 75 (v1).toNatClampNeg (σ 75 (v1).toNatClampNeg)))))
def lp_144_127 (ko : Int32 → Int32 → St → MR) (v1 : Int32) (v2 : Int32) (v3 : Int32) (σ : St) : MR := (if 0 ≤ v3 then (if v2 = 98 then mb (vp_in v1 7) (lp_144_155 ko v1 v2 v3 (up σ 74 (v1).toNatClampNeg v3)) else mb (vp_in v1 7) (mb (vp_in v1 7) (lp_144_155 ko v1 v2 v3 (up σ 74 (v1).toNatClampNeg (σ 74 (v1).toNatClampNeg))))) else mb ((0 : Int32) = 0 ∨ (0 : Int32) = 1) (rt 0 σ))
def lp_144_85 (ko : Int32 → Int32 → St → MR) (v1 : Int32) (v2 : Int32) (σ : St) : MR := (if v2 = 102 then bn (sp_146 v1 (up σ 12 45 ((σ 12 45) + 1))) (fun r7 σ7 => (if r7 = 0 then mb ((0 : Int32) = 0 ∨ (0 : Int32) = 1) (rt 0 σ7) else ko v1 v2 σ7)) else (if v2 = 98 then bn (sp_147 3 (up σ 12 45 ((σ 12 45) + 1))) (fun r6 σ6 => lp_144_127 ko v1 v2 r6 σ6) else bn (sp_147 2 (up σ 12 45 ((σ 12 45) + 1))) (fun r5 σ5 => lp_144_127 ko v1 v2 r5 σ5)))
def lp_144_49 : Nat → Int32 → Int32 → St → MR
  | 0, _, _, _ => bad
  | n + 1, v1, v2, σ => (if (σ 12 9) ≤ (σ 12 45) then mb ((1 : Int32) = 0 ∨ (1 : Int32) = 1) (rt 1 σ) else bn (sp_145  σ) (fun r8 σ8 => (if r8 = 98 then lp_144_85 (fun v1 v2 σ => lp_144_49 n v1 v2 σ) v1 r8 σ8 else (if r8 = 100 then lp_144_85 (fun v1 v2 σ => lp_144_49 n v1 v2 σ) v1 r8 σ8 else (if r8 = 102 then lp_144_85 (fun v1 v2 σ => lp_144_49 n v1 v2 σ) v1 r8 σ8 else mb ((0 : Int32) = 0 ∨ (0 : Int32) = 1) (rt 0 σ8))))))
def lp_144_22 : Nat → Int32 → Int32 → St → MR
  | 0, _, _, _ => bad
  | n + 1, v1, v2, σ => (if 4 ≤ v2 then lp_144_49 FU v1 v2 (up σ 12 45 0) else mb (vp_in (((4 : Int32) * v1) + v2) 28) (lp_144_22 n v1 (v2 + 1) (up σ 76 (((4 : Int32) * v1) + v2).toNatClampNeg 0)))
def sp_144 (σ : St) : MR := mb (vp_in (σ 12 5) 7) (mb (vp_in (σ 12 5) 7) (lp_144_22 FU (σ 12 5) 0 (up (up σ 74 (σ 12 5).toNatClampNeg 0) 75 (σ 12 5).toNatClampNeg 100)))
/-- TradeTestsModel.says -/
def sp_149 (x1 x2 : Int32) (σ : St) : MR := bn (sp_124 x1 σ) (fun r10 σ10 => (if r10 = 0 then bn (sp_125 1 σ10) (fun r11 σ11 => rt r11 σ11) else bn (sp_123 x2 0 1 σ10) (fun r12 σ12 => (if r12 = 0 then bn (sp_123 x2 10 13 σ12) (fun r15 σ15 => (if r15 = 0 then bn (sp_125 1 σ15) (fun r18 σ18 => rt r18 σ18) else bn (sp_150 x1 σ15) (fun r16 σ16 => (if 0 ≤ r16 then (if x2 = 0 then mb (vp_in r16 7) (rt (σ16 74 (r16).toNatClampNeg) σ16) else (if x2 = 1 then mb (vp_in r16 7) (rt (σ16 75 (r16).toNatClampNeg) σ16) else mb (vp_in ((((4 : Int32) * r16) + x2) - 10) 28) (rt (σ16 76 ((((4 : Int32) * r16) + x2) - 10).toNatClampNeg) σ16))) else bn (sp_125 2 σ16) (fun r17 σ17 => rt r17 σ17))))) else bn (sp_150 x1 σ12) (fun r13 σ13 => (if 0 ≤ r13 then (if x2 = 0 then mb (vp_in r13 7) (rt (σ13 74 (r13).toNatClampNeg) σ13) else (if x2 = 1 then mb (vp_in r13 7) (rt (σ13 75 (r13).toNatClampNeg) σ13) else mb (vp_in ((((4 : Int32) * r13) + x2) - 10) 28) (rt (σ13 76 ((((4 : Int32) * r13) + x2) - 10).toNatClampNeg) σ13))) else bn (sp_125 2 σ13) (fun r14 σ14 => rt r14 σ14)))))))
/-- TradeTestsModel.verdict -/
def sp_151 (x1 : Int32) (σ : St) : MR := bn (sp_140 x1 σ) (fun r4 σ4 => (if r4 = 0 then bn (sp_125 1 σ4) (fun r6 σ6 => rt r6 σ6) else bn (sp_152 x1 σ4) (fun r5 σ5 => (if r5 = 0 then rt 0 σ5 else rt 1 σ5))))
/-- TradeTestsModel.unlikeOf -/
def sp_154 (x1 : Int32) (σ : St) : MR := mb (vp_in x1 80) (bn (sp_152 x1 σ) (fun r2 σ2 => (if (σ 70 (x1).toNatClampNeg) = r2 then rt 0 σ2 else mb (vp_in x1 80) ((if (σ2 70 (x1).toNatClampNeg) = 0 then rt 2 σ2 else rt 1 σ2)))))
/-- TradeTestsModel.share -/
def sp_155 (x1 x2 : Int32) (σ : St) : MR := bn (sp_123 x1 0 3 σ) (fun r7 σ7 => (if r7 = 0 then bn (sp_125 1 σ7) (fun r8 σ8 => rt r8 σ8) else bn (sp_123 x2 0 3 σ7) (fun r9 σ9 => (if r9 = 0 then bn (sp_125 1 σ9) (fun r12 σ12 => rt r12 σ12) else bn (sp_156 (((4 : Int32) * x1) + x2) σ9) (fun r10 σ10 => (if 0 ≤ r10 then rt r10 σ10 else bn (sp_125 2 σ10) (fun r11 σ11 => rt r11 σ11)))))))
/-- TradeTestsModel.looked -/
def lp_159_4 : Nat → Int32 → Int32 → St → MR
  | 0, _, _, _ => bad
  | n + 1, v1, v2, σ => (if (σ 12 4) ≤ v2 then bn (sp_160 v1 σ) (fun r3 σ3 => rt r3 σ3) else bn (sp_141 v2 σ) (fun r4 σ4 => lp_159_4 n (v1 ||| ((1 : Int32) <<< (r4 &&& 31))) (v2 + 1) σ4))
def sp_159 (σ : St) : MR := lp_159_4 FU 0 0 σ
/-- TradeTestsModel.alikeOf -/
def lp_163_4 : Nat → Int32 → Int32 → Int32 → St → MR
  | 0, _, _, _, _ => bad
  | n + 1, v1, v2, v3, σ => (if (σ 12 4) ≤ v3 then rt v2 σ else mb (vp_in v3 80) (mb (vp_in v1 80) ((if (σ 60 (v3).toNatClampNeg) = (σ 60 (v1).toNatClampNeg) then mb (vp_in v3 80) (mb (vp_in v1 80) ((if (σ 59 (v3).toNatClampNeg) = (σ 59 (v1).toNatClampNeg) then lp_163_4 n v1 (v2 + 0) (v3 + 1) σ else mb (vp_in v1 80) (mb (vp_in v3 80) (bn (sp_164 (σ 61 (v1).toNatClampNeg) (σ 61 (v3).toNatClampNeg) 30 σ) (fun r4 σ4 => (if r4 = 0 then lp_163_4 n v1 (v2 + 0) (v3 + 1) σ4 else mb (vp_in v1 80) (mb (vp_in v3 80) (bn (sp_164 (σ4 65 (v1).toNatClampNeg) (σ4 65 (v3).toNatClampNeg) 1 σ4) (fun r5 σ5 => (if r5 = 0 then lp_163_4 n v1 (v2 + 0) (v3 + 1) σ5 else mb (vp_in v1 80) (mb (vp_in v3 80) (bn (sp_164 (σ5 66 (v1).toNatClampNeg) (σ5 66 (v3).toNatClampNeg) 1 σ5) (fun r6 σ6 => (if r6 = 0 then lp_163_4 n v1 (v2 + 0) (v3 + 1) σ6 else lp_163_4 n v1 (v2 + 1) (v3 + 1) σ6))))))))))))))) else lp_163_4 n v1 (v2 + 0) (v3 + 1) σ))))
def sp_163 (x1 : Int32) (σ : St) : MR := lp_163_4 FU x1 0 0 σ
/-- TradeTestsModel.isShut -/
def sp_167 (x1 : Int32) (σ : St) : MR := bn (sp_141 x1 σ) (fun r2 σ2 => mb (vp_in x1 80) (mb (vp_in r2 6) ((if (σ2 62 (x1).toNatClampNeg) < (σ2 53 (r2).toNatClampNeg) then mb ((1 : Int32) = 0 ∨ (1 : Int32) = 1) (rt 1 σ2) else mb (vp_in x1 80) (mb (vp_in x1 80) (mb (vp_in r2 6) ((if ((σ2 62 (x1).toNatClampNeg) + (σ2 63 (x1).toNatClampNeg)) ≤ (σ2 54 (r2).toNatClampNeg) then mb ((0 : Int32) = 0 ∨ (0 : Int32) = 1) (rt 0 σ2) else mb ((1 : Int32) = 0 ∨ (1 : Int32) = 1) (rt 1 σ2)))))))))
/-- TradeTestsModel.falls -/
def lp_170_105 : Nat → Int32 → Int32 → Int32 → Int32 → St → MR
  | 0, _, _, _, _, _ => bad
  | n + 1, v1, v2, v3, v4, σ => (if v4 ≤ v1 then mb (vp_in v1 80) (mb (vp_in v2 80) ((if (σ 12 4) ≤ v3 then bn (sp_171 (σ 64 (v1).toNatClampNeg) (σ 64 (v2).toNatClampNeg) 999999 σ) (fun r6 σ6 => (if r6 = 0 then rt 2 σ6 else rt 1 σ6)) else mb (vp_in v3 80) (bn (sp_171 (σ 64 (v1).toNatClampNeg) (σ 64 (v2).toNatClampNeg) (σ 64 (v3).toNatClampNeg) σ) (fun r7 σ7 => (if r7 = 0 then rt 2 σ7 else rt 1 σ7)))))) else mb (vp_in v4 80) (mb (vp_in v1 80) ((if (σ 59 (v4).toNatClampNeg) = (σ 59 (v1).toNatClampNeg) then lp_170_105 n v1 v2 v4 (v4 + (-1)) σ else lp_170_105 n v1 v2 v3 (v4 + (-1)) σ))))
def lp_170_39 : Nat → Int32 → Int32 → Int32 → St → MR
  | 0, _, _, _, _ => bad
  | n + 1, v1, v2, v3, σ => (if v1 ≤ v3 then (if v2 < 0 then rt 0 σ else mb (vp_in v1 80) (mb (vp_in v2 80) ((if (σ 64 (v1).toNatClampNeg) < (σ 64 (v2).toNatClampNeg) then lp_170_105 FU v1 v2 (σ 12 4) ((σ 12 4) - 1) σ else rt 0 σ)))) else mb (vp_in v3 80) (mb (vp_in v1 80) ((if (σ 59 (v3).toNatClampNeg) = (σ 59 (v1).toNatClampNeg) then lp_170_39 n v1 v3 (v3 + 1) σ else lp_170_39 n v1 v2 (v3 + 1) σ))))
def sp_170 (x1 : Int32) (σ : St) : MR := bn (sp_140 x1 σ) (fun r8 σ8 => (if r8 = 0 then bn (sp_125 1 σ8) (fun r10 σ10 => rt r10 σ10) else mb (vp_in x1 80) (mb (vp_in (σ8 59 (x1).toNatClampNeg) 24) ((if (σ8 50 (σ8 59 (x1).toNatClampNeg).toNatClampNeg) = 3 then bn (sp_125 5 σ8) (fun r9 σ9 => rt r9 σ9) else lp_170_39 FU x1 (-1) 0 σ8)))))
/-- TradeTestsModel.appeal -/
def sp_173 (x1 x2 : Int32) (σ : St) : MR := bn (sp_140 x1 σ) (fun r5 σ5 => (if r5 = 0 then bn (sp_125 1 σ5) (fun r6 σ6 => rt r6 σ6) else bn (sp_123 x2 0 1 σ5) (fun r7 σ7 => (if r7 = 0 then bn (sp_125 1 σ7) (fun r8 σ8 => rt r8 σ8) else mb (vp_in x1 80) ((if (σ7 71 (x1).toNatClampNeg) = 0 then (if x2 = 1 then mb (vp_in x1 80) (mb ((1 : Int32) = 0 ∨ (1 : Int32) = 1) (rt 0 (up σ7 71 (x1).toNatClampNeg 1))) else mb (vp_in x1 80) (mb ((0 : Int32) = 0 ∨ (0 : Int32) = 1) (rt 0 (up σ7 71 (x1).toNatClampNeg 0)))) else (if x2 = 1 then mb (vp_in x1 80) (mb ((1 : Int32) = 0 ∨ (1 : Int32) = 1) (rt 1 (up σ7 71 (x1).toNatClampNeg 1))) else mb (vp_in x1 80) (mb ((0 : Int32) = 0 ∨ (0 : Int32) = 1) (rt 1 (up σ7 71 (x1).toNatClampNeg 0))))))))))
/-- TradeTestsModel.visit -/
def sp_182 (x1 x2 : Int32) (σ : St) : MR := bn (sp_123 x1 0 ((σ 12 6) - 1) σ) (fun r7 σ7 => (if r7 = 0 then bn (sp_125 1 σ7) (fun r8 σ8 => rt r8 σ8) else bn (sp_140 x2 σ7) (fun r9 σ9 => (if r9 = 0 then bn (sp_125 1 σ9) (fun r12 σ12 => rt r12 σ12) else mb (vp_in x2 80) ((if (σ9 68 (x2).toNatClampNeg) < 0 then mb (vp_in x2 80) (bn (sp_176 x2 (up (up σ9 68 (x2).toNatClampNeg x1) 12 7 ((σ9 12 7) + 1))) (fun r10 σ10 => rt r10 σ10)) else bn (sp_125 3 σ9) (fun r11 σ11 => rt r11 σ11)))))))
/-- TradeTestsModel.draw -/
def sp_187 (x1 x2 x3 : Int32) (σ : St) : MR := bn (sp_140 x1 σ) (fun r8 σ8 => (if r8 = 0 then bn (sp_125 1 σ8) (fun r9 σ9 => rt r9 σ9) else bn (sp_123 x2 1 100 σ8) (fun r10 σ10 => (if r10 = 0 then bn (sp_125 1 σ10) (fun r11 σ11 => rt r11 σ11) else bn (sp_123 x3 0 1 σ10) (fun r12 σ12 => (if r12 = 0 then bn (sp_125 1 σ12) (fun r14 σ14 => rt r14 σ14) else mb (vp_in x1 80) ((if (σ12 69 (x1).toNatClampNeg) ≤ 0 then mb (vp_in x1 80) ((if x3 = 1 then mb (vp_in x1 80) (mb ((1 : Int32) = 0 ∨ (1 : Int32) = 1) (rt ((σ12 12 8) + 1) (up (up (up σ12 69 (x1).toNatClampNeg x2) 72 (x1).toNatClampNeg 1) 12 8 ((σ12 12 8) + 1)))) else mb (vp_in x1 80) (mb ((0 : Int32) = 0 ∨ (0 : Int32) = 1) (rt ((σ12 12 8) + 1) (up (up (up σ12 69 (x1).toNatClampNeg x2) 72 (x1).toNatClampNeg 0) 12 8 ((σ12 12 8) + 1)))))) else bn (sp_125 3 σ12) (fun r13 σ13 => rt r13 σ13)))))))))
/-- TradeTests$Texts.readRow -/
def lp_32_62 (v1 : Int32) (v2 : Int32) (σ : St) : MR := (if 0 ≤ v2 then (if v1 = 98 then mb (vp_in (σ 4 7) 6) (mb ((1 : Int32) = 0 ∨ (1 : Int32) = 1) (rt 1 (up σ 40 (σ 4 7).toNatClampNeg v2))) else mb (vp_in (σ 4 7) 6) (mb ((1 : Int32) = 0 ∨ (1 : Int32) = 1) (rt 1 (up σ 41 (σ 4 7).toNatClampNeg v2)))) else mb ((0 : Int32) = 0 ∨ (0 : Int32) = 1) (rt 0 σ))
def lp_32_25 (v1 : Int32) (σ : St) : MR := (if v1 = 102 then bn (sp_34  (up σ 4 2 ((σ 4 2) + 1))) (fun r7 σ7 => mb (r7 = 0 ∨ r7 = 1) (rt r7 σ7)) else (if v1 = 98 then bn (sp_38 3 (up σ 4 2 ((σ 4 2) + 1))) (fun r6 σ6 => lp_32_62 v1 r6 σ6) else bn (sp_38 2 (up σ 4 2 ((σ 4 2) + 1))) (fun r5 σ5 => lp_32_62 v1 r5 σ5)))
def sp_32 (σ : St) : MR := bn (sp_33  σ) (fun r8 σ8 => (if r8 = 98 then lp_32_25 r8 σ8 else (if r8 = 100 then lp_32_25 r8 σ8 else (if r8 = 102 then lp_32_25 r8 σ8 else mb ((0 : Int32) = 0 ∨ (0 : Int32) = 1) (rt 0 σ8)))))
/-- TradeTests.unlike -/
def sp_45 (x1 : Int32) (σ : St) : MR := bn (sp_1 x1 (σ 3 14) σ) (fun r4 σ4 => (if r4 = 0 then bn (sp_2 1 σ4) (fun r6 σ6 => rt r6 σ6) else bn (sp_46 x1 σ4) (fun r5 σ5 => rt r5 σ5)))
/-- TradeTests$Signals.bits -/
def sp_50 (x1 : Int32) (σ : St) : MR := bn (sp_51 x1 σ) (fun r32 σ32 => (if r32 ≤ 2 then bn (sp_54 x1 σ32) (fun r33 σ33 => (if r33 = 0 then bn (sp_55 x1 σ33) (fun r34 σ34 => (if r34 = 0 then bn (sp_57 x1 σ34) (fun r35 σ35 => (if r35 = 0 then bn (sp_58 x1 σ35) (fun r36 σ36 => (if r36 = 0 then rt (((((0 : Int32) ||| 0) ||| 0) ||| 0) ||| 0) σ36 else rt (((((0 : Int32) ||| 0) ||| 0) ||| 0) ||| 16) σ36)) else bn (sp_58 x1 σ35) (fun r37 σ37 => (if r37 = 0 then rt (((((0 : Int32) ||| 0) ||| 0) ||| 8) ||| 0) σ37 else rt (((((0 : Int32) ||| 0) ||| 0) ||| 8) ||| 16) σ37)))) else bn (sp_57 x1 σ34) (fun r38 σ38 => (if r38 = 0 then bn (sp_58 x1 σ38) (fun r39 σ39 => (if r39 = 0 then rt (((((0 : Int32) ||| 0) ||| 4) ||| 0) ||| 0) σ39 else rt (((((0 : Int32) ||| 0) ||| 4) ||| 0) ||| 16) σ39)) else bn (sp_58 x1 σ38) (fun r40 σ40 => (if r40 = 0 then rt (((((0 : Int32) ||| 0) ||| 4) ||| 8) ||| 0) σ40 else rt (((((0 : Int32) ||| 0) ||| 4) ||| 8) ||| 16) σ40)))))) else bn (sp_55 x1 σ33) (fun r41 σ41 => (if r41 = 0 then bn (sp_57 x1 σ41) (fun r42 σ42 => (if r42 = 0 then bn (sp_58 x1 σ42) (fun r43 σ43 => (if r43 = 0 then rt (((((0 : Int32) ||| 2) ||| 0) ||| 0) ||| 0) σ43 else rt (((((0 : Int32) ||| 2) ||| 0) ||| 0) ||| 16) σ43)) else bn (sp_58 x1 σ42) (fun r44 σ44 => (if r44 = 0 then rt (((((0 : Int32) ||| 2) ||| 0) ||| 8) ||| 0) σ44 else rt (((((0 : Int32) ||| 2) ||| 0) ||| 8) ||| 16) σ44)))) else bn (sp_57 x1 σ41) (fun r45 σ45 => (if r45 = 0 then bn (sp_58 x1 σ45) (fun r46 σ46 => (if r46 = 0 then rt (((((0 : Int32) ||| 2) ||| 4) ||| 0) ||| 0) σ46 else rt (((((0 : Int32) ||| 2) ||| 4) ||| 0) ||| 16) σ46)) else bn (sp_58 x1 σ45) (fun r47 σ47 => (if r47 = 0 then rt (((((0 : Int32) ||| 2) ||| 4) ||| 8) ||| 0) σ47 else rt (((((0 : Int32) ||| 2) ||| 4) ||| 8) ||| 16) σ47)))))))) else bn (sp_54 x1 σ32) (fun r48 σ48 => (if r48 = 0 then bn (sp_55 x1 σ48) (fun r49 σ49 => (if r49 = 0 then bn (sp_57 x1 σ49) (fun r50 σ50 => (if r50 = 0 then bn (sp_58 x1 σ50) (fun r51 σ51 => (if r51 = 0 then rt (((((1 : Int32) ||| 0) ||| 0) ||| 0) ||| 0) σ51 else rt (((((1 : Int32) ||| 0) ||| 0) ||| 0) ||| 16) σ51)) else bn (sp_58 x1 σ50) (fun r52 σ52 => (if r52 = 0 then rt (((((1 : Int32) ||| 0) ||| 0) ||| 8) ||| 0) σ52 else rt (((((1 : Int32) ||| 0) ||| 0) ||| 8) ||| 16) σ52)))) else bn (sp_57 x1 σ49) (fun r53 σ53 => (if r53 = 0 then bn (sp_58 x1 σ53) (fun r54 σ54 => (if r54 = 0 then rt (((((1 : Int32) ||| 0) ||| 4) ||| 0) ||| 0) σ54 else rt (((((1 : Int32) ||| 0) ||| 4) ||| 0) ||| 16) σ54)) else bn (sp_58 x1 σ53) (fun r55 σ55 => (if r55 = 0 then rt (((((1 : Int32) ||| 0) ||| 4) ||| 8) ||| 0) σ55 else rt (((((1 : Int32) ||| 0) ||| 4) ||| 8) ||| 16) σ55)))))) else bn (sp_55 x1 σ48) (fun r56 σ56 => (if r56 = 0 then bn (sp_57 x1 σ56) (fun r57 σ57 => (if r57 = 0 then bn (sp_58 x1 σ57) (fun r58 σ58 => (if r58 = 0 then rt (((((1 : Int32) ||| 2) ||| 0) ||| 0) ||| 0) σ58 else rt (((((1 : Int32) ||| 2) ||| 0) ||| 0) ||| 16) σ58)) else bn (sp_58 x1 σ57) (fun r59 σ59 => (if r59 = 0 then rt (((((1 : Int32) ||| 2) ||| 0) ||| 8) ||| 0) σ59 else rt (((((1 : Int32) ||| 2) ||| 0) ||| 8) ||| 16) σ59)))) else bn (sp_57 x1 σ56) (fun r60 σ60 => (if r60 = 0 then bn (sp_58 x1 σ60) (fun r61 σ61 => (if r61 = 0 then rt (((((1 : Int32) ||| 2) ||| 4) ||| 0) ||| 0) σ61 else rt (((((1 : Int32) ||| 2) ||| 4) ||| 0) ||| 16) σ61)) else bn (sp_58 x1 σ60) (fun r62 σ62 => (if r62 = 0 then rt (((((1 : Int32) ||| 2) ||| 4) ||| 8) ||| 0) σ62 else rt (((((1 : Int32) ||| 2) ||| 4) ||| 8) ||| 16) σ62))))))))))
/-- TradeTests$Rates.beyondChance -/
def sp_69 (σ : St) : MR := bn (sp_68  σ) (fun r3 σ3 => bn (sp_70  σ3) (fun r4 σ4 => (if 0 < (lg_cmp (r3.toInt64 * r3.toInt64) (((σ3 7 8).toInt64) * (((4 : Int32) + r4).toInt64))) then (if (lg_cmp r3.toInt64 (Int32.toInt64 0)) ≤ 0 then rt 2 σ4 else rt 1 σ4) else rt 0 σ4)))
/-- TradeTests$Rates.shareOf -/
def sp_72 (x1 x2 : Int32) (σ : St) : MR := bn (sp_63  σ) (fun r3 σ3 => bn (sp_67 ((x1 * 4) + x2) σ3) (fun r4 σ4 => rt r4 σ4))
/-- TradeTests.alike -/
def sp_74 (x1 : Int32) (σ : St) : MR := bn (sp_1 x1 (σ 3 14) σ) (fun r4 σ4 => (if r4 = 0 then bn (sp_2 1 σ4) (fun r6 σ6 => rt r6 σ6) else bn (sp_51 x1 σ4) (fun r5 σ5 => rt r5 σ5)))
/-- TradeTests$Penalties.ofTest -/
def sp_85 (x1 : Int32) (σ : St) : MR := bn (sp_86 x1 σ) (fun r18 σ18 => bn (sp_59 r18 σ18) (fun r19 σ19 => mb (vp_in x1 80) ((if (σ19 34 (x1).toNatClampNeg) = 1 then rt ((10 : Int32) * r19) σ19 else bn (sp_58 x1 σ19) (fun r20 σ20 => (if r20 = 0 then bn (sp_54 x1 σ20) (fun r21 σ21 => (if r21 = 0 then bn (sp_55 x1 σ21) (fun r22 σ22 => (if r22 = 0 then bn (sp_57 x1 σ22) (fun r23 σ23 => (if r23 = 0 then rt ((((((10 : Int32) * r19) + 0) + 0) + 0) + 0) σ23 else rt ((((((10 : Int32) * r19) + 0) + 0) + 0) + 1) σ23)) else bn (sp_57 x1 σ22) (fun r24 σ24 => (if r24 = 0 then rt ((((((10 : Int32) * r19) + 0) + 0) + 4) + 0) σ24 else rt ((((((10 : Int32) * r19) + 0) + 0) + 4) + 1) σ24)))) else bn (sp_55 x1 σ21) (fun r25 σ25 => (if r25 = 0 then bn (sp_57 x1 σ25) (fun r26 σ26 => (if r26 = 0 then rt ((((((10 : Int32) * r19) + 0) + 2) + 0) + 0) σ26 else rt ((((((10 : Int32) * r19) + 0) + 2) + 0) + 1) σ26)) else bn (sp_57 x1 σ25) (fun r27 σ27 => (if r27 = 0 then rt ((((((10 : Int32) * r19) + 0) + 2) + 4) + 0) σ27 else rt ((((((10 : Int32) * r19) + 0) + 2) + 4) + 1) σ27)))))) else bn (sp_54 x1 σ20) (fun r28 σ28 => (if r28 = 0 then bn (sp_55 x1 σ28) (fun r29 σ29 => (if r29 = 0 then bn (sp_57 x1 σ29) (fun r30 σ30 => (if r30 = 0 then rt ((((((10 : Int32) * r19) + 6) + 0) + 0) + 0) σ30 else rt ((((((10 : Int32) * r19) + 6) + 0) + 0) + 1) σ30)) else bn (sp_57 x1 σ29) (fun r31 σ31 => (if r31 = 0 then rt ((((((10 : Int32) * r19) + 6) + 0) + 4) + 0) σ31 else rt ((((((10 : Int32) * r19) + 6) + 0) + 4) + 1) σ31)))) else bn (sp_55 x1 σ28) (fun r32 σ32 => (if r32 = 0 then bn (sp_57 x1 σ32) (fun r33 σ33 => (if r33 = 0 then rt ((((((10 : Int32) * r19) + 6) + 2) + 0) + 0) σ33 else rt ((((((10 : Int32) * r19) + 6) + 2) + 0) + 1) σ33)) else bn (sp_57 x1 σ32) (fun r34 σ34 => (if r34 = 0 then rt ((((((10 : Int32) * r19) + 6) + 2) + 4) + 0) σ34 else rt ((((((10 : Int32) * r19) + 6) + 2) + 4) + 1) σ34))))))))))))
/-- TradeTests.visit -/
def sp_95 (x1 x2 : Int32) (σ : St) : MR := bn (sp_1 x1 (σ 9 3) σ) (fun r9 σ9 => (if r9 = 0 then bn (sp_2 1 σ9) (fun r10 σ10 => rt r10 σ10) else bn (sp_1 x2 (σ9 3 14) σ9) (fun r11 σ11 => (if r11 = 0 then bn (sp_2 1 σ11) (fun r16 σ16 => rt r16 σ16) else bn (sp_61 x2 σ11) (fun r12 σ12 => (if r12 = 0 then bn (sp_96 x1 x2 σ12) (fun r13 σ13 => bn (sp_86 x2 σ13) (fun r14 σ14 => rt r14 σ14)) else bn (sp_2 3 σ12) (fun r15 σ15 => rt r15 σ15)))))))
/-- TradeTests$Judge.isLeaning -/
def lp_116_5 : Nat → Int32 → Int32 → Int32 → Int32 → St → MR
  | 0, _, _, _, _, _ => bad
  | n + 1, v1, v2, v3, v4, σ => (if (σ 3 14) ≤ v4 then (if v3 < 0 then mb ((0 : Int32) = 0 ∨ (0 : Int32) = 1) (rt 0 σ) else bn (sp_58 v3 σ) (fun r3 σ3 => (if r3 = 0 then mb ((0 : Int32) = 0 ∨ (0 : Int32) = 1) (rt 0 σ3) else mb (vp_in v3 80) (bn (sp_6 v1 σ3) (fun r4 σ4 => (if ((σ3 26 (v3).toNatClampNeg) + r4) < v2 then mb ((0 : Int32) = 0 ∨ (0 : Int32) = 1) (rt 0 σ4) else mb ((1 : Int32) = 0 ∨ (1 : Int32) = 1) (rt 1 σ4))))))) else mb (vp_in v4 80) ((if (σ 24 (v4).toNatClampNeg) = v1 then mb (vp_in v4 80) ((if v2 < (σ 26 (v4).toNatClampNeg) then lp_116_5 n v1 v2 v3 (v4 + 1) σ else lp_116_5 n v1 v2 v4 (v4 + 1) σ)) else lp_116_5 n v1 v2 v3 (v4 + 1) σ)))
def sp_116 (x1 x2 : Int32) (σ : St) : MR := lp_116_5 FU x1 x2 (-1) 0 σ
/-- TradeTestsModel.test -/
def sp_137 (x1 x2 x3 x4 x5 : Int32) (σ : St) : MR := bn (sp_138 x1 x2 x3 x4 x5 σ) (fun r4 σ4 => (if r4 = 0 then bn (sp_125 1 σ4) (fun r6 σ6 => rt r6 σ6) else (if (σ4 12 4) = 80 then bn (sp_125 4 σ4) (fun r5 σ5 => rt r5 σ5) else mb (¬ (100 : Int32) = 0) (mb (vp_in (σ4 12 4) 80) (mb (¬ (100 : Int32) = 0) (mb (vp_in (σ4 12 4) 80) (mb (¬ (10000 : Int32) = 0) (mb (vp_in (σ4 12 4) 80) (mb (¬ (10000 : Int32) = 0) (mb (vp_in (σ4 12 4) 80) (mb (¬ (1000 : Int32) = 0) (mb (vp_in (σ4 12 4) 80) (mb (¬ (1000 : Int32) = 0) ((if (x3 - x3 / 1000 * 1000) ≤ 255 then mb (vp_in (σ4 12 4) 80) (mb ((0 : Int32) = 0 ∨ (0 : Int32) = 1) (mb (¬ (1000 : Int32) = 0) (mb (¬ (256 : Int32) = 0) (mb (vp_in (σ4 12 4) 80) (mb (vp_in (σ4 12 4) 80) (mb (¬ (1000 : Int32) = 0) (mb (vp_in (σ4 12 4) 80) (mb (¬ (1000 : Int32) = 0) (mb (vp_in (σ4 12 4) 80) (mb (vp_in (σ4 12 4) 80) (mb (vp_in (σ4 12 4) 80) (mb (vp_in (σ4 12 4) 80) (mb ((0 : Int32) = 0 ∨ (0 : Int32) = 1) (rt (((σ4 12 4) + 1) - 1) (up (up (up (up (up (up (up (up (up (up (up (up (up (up σ4 59 (σ4 12 4).toNatClampNeg (x1 / 100)) 60 (σ4 12 4).toNatClampNeg (x1 - x1 / 100 * 100)) 61 (σ4 12 4).toNatClampNeg (x2 - x2 / 10000 * 10000)) 62 (σ4 12 4).toNatClampNeg (x2 / 10000)) 63 (σ4 12 4).toNatClampNeg (x3 / 1000)) 70 (σ4 12 4).toNatClampNeg 0) 67 (σ4 12 4).toNatClampNeg ((x3 - x3 / 1000 * 1000) - (x3 - x3 / 1000 * 1000) / 256 * 256)) 64 (σ4 12 4).toNatClampNeg x4) 65 (σ4 12 4).toNatClampNeg (x5 / 1000)) 66 (σ4 12 4).toNatClampNeg (x5 - x5 / 1000 * 1000)) 68 (σ4 12 4).toNatClampNeg (-1)) 69 (σ4 12 4).toNatClampNeg 0) 71 (σ4 12 4).toNatClampNeg 0) 12 4 ((σ4 12 4) + 1)))))))))))))))) else mb (vp_in (σ4 12 4) 80) (mb ((1 : Int32) = 0 ∨ (1 : Int32) = 1) (mb (¬ (1000 : Int32) = 0) (mb (¬ (256 : Int32) = 0) (mb (vp_in (σ4 12 4) 80) (mb (vp_in (σ4 12 4) 80) (mb (¬ (1000 : Int32) = 0) (mb (vp_in (σ4 12 4) 80) (mb (¬ (1000 : Int32) = 0) (mb (vp_in (σ4 12 4) 80) (mb (vp_in (σ4 12 4) 80) (mb (vp_in (σ4 12 4) 80) (mb (vp_in (σ4 12 4) 80) (mb ((0 : Int32) = 0 ∨ (0 : Int32) = 1) (rt (((σ4 12 4) + 1) - 1) (up (up (up (up (up (up (up (up (up (up (up (up (up (up σ4 59 (σ4 12 4).toNatClampNeg (x1 / 100)) 60 (σ4 12 4).toNatClampNeg (x1 - x1 / 100 * 100)) 61 (σ4 12 4).toNatClampNeg (x2 - x2 / 10000 * 10000)) 62 (σ4 12 4).toNatClampNeg (x2 / 10000)) 63 (σ4 12 4).toNatClampNeg (x3 / 1000)) 70 (σ4 12 4).toNatClampNeg 1) 67 (σ4 12 4).toNatClampNeg ((x3 - x3 / 1000 * 1000) - (x3 - x3 / 1000 * 1000) / 256 * 256)) 64 (σ4 12 4).toNatClampNeg x4) 65 (σ4 12 4).toNatClampNeg (x5 / 1000)) 66 (σ4 12 4).toNatClampNeg (x5 - x5 / 1000 * 1000)) 68 (σ4 12 4).toNatClampNeg (-1)) 69 (σ4 12 4).toNatClampNeg 0) 71 (σ4 12 4).toNatClampNeg 0) 12 4 ((σ4 12 4) + 1)))))))))))))))))))))))))))))))
/-- TradeTestsModel.text -/
def sp_143 (x1 : Int32) (σ : St) : MR := bn (sp_124 x1 σ) (fun r5 σ5 => (if r5 = 0 then bn (sp_125 1 σ5) (fun r8 σ8 => rt r8 σ8) else (if (σ5 12 5) = 6 then bn (sp_125 4 σ5) (fun r7 σ7 => rt r7 σ7) else bn (sp_144  σ5) (fun r6 σ6 => (if r6 = 0 then rt ((-10 : Int32) - (σ6 12 45)) (up σ6 12 9 0) else mb (vp_in (σ6 12 5) 7) (rt ((σ6 12 5) + 1) (up (up (up σ6 12 9 0) 73 (σ6 12 5).toNatClampNeg x1) 12 5 ((σ6 12 5) + 1))))))))
/-- TradeTestsModel.unlike -/
def sp_153 (x1 : Int32) (σ : St) : MR := bn (sp_140 x1 σ) (fun r4 σ4 => (if r4 = 0 then bn (sp_125 1 σ4) (fun r5 σ5 => rt r5 σ5) else bn (sp_154 x1 σ4) (fun r6 σ6 => rt r6 σ6)))
/-- TradeTestsModel.signsOf -/
def sp_162 (x1 : Int32) (σ : St) : MR := bn (sp_163 x1 σ) (fun r32 σ32 => (if r32 ≤ 2 then bn (sp_165 x1 σ32) (fun r33 σ33 => (if r33 = 0 then bn (sp_166 x1 σ33) (fun r34 σ34 => (if r34 = 0 then bn (sp_167 x1 σ34) (fun r35 σ35 => (if r35 = 0 then bn (sp_154 x1 σ35) (fun r36 σ36 => (if r36 = 1 then rt (((((0 : Int32) + 0) + 0) + 0) + 16) σ36 else rt (((((0 : Int32) + 0) + 0) + 0) + 0) σ36)) else bn (sp_154 x1 σ35) (fun r37 σ37 => (if r37 = 1 then rt (((((0 : Int32) + 0) + 0) + 8) + 16) σ37 else rt (((((0 : Int32) + 0) + 0) + 8) + 0) σ37)))) else bn (sp_167 x1 σ34) (fun r38 σ38 => (if r38 = 0 then bn (sp_154 x1 σ38) (fun r39 σ39 => (if r39 = 1 then rt (((((0 : Int32) + 0) + 4) + 0) + 16) σ39 else rt (((((0 : Int32) + 0) + 4) + 0) + 0) σ39)) else bn (sp_154 x1 σ38) (fun r40 σ40 => (if r40 = 1 then rt (((((0 : Int32) + 0) + 4) + 8) + 16) σ40 else rt (((((0 : Int32) + 0) + 4) + 8) + 0) σ40)))))) else bn (sp_166 x1 σ33) (fun r41 σ41 => (if r41 = 0 then bn (sp_167 x1 σ41) (fun r42 σ42 => (if r42 = 0 then bn (sp_154 x1 σ42) (fun r43 σ43 => (if r43 = 1 then rt (((((0 : Int32) + 2) + 0) + 0) + 16) σ43 else rt (((((0 : Int32) + 2) + 0) + 0) + 0) σ43)) else bn (sp_154 x1 σ42) (fun r44 σ44 => (if r44 = 1 then rt (((((0 : Int32) + 2) + 0) + 8) + 16) σ44 else rt (((((0 : Int32) + 2) + 0) + 8) + 0) σ44)))) else bn (sp_167 x1 σ41) (fun r45 σ45 => (if r45 = 0 then bn (sp_154 x1 σ45) (fun r46 σ46 => (if r46 = 1 then rt (((((0 : Int32) + 2) + 4) + 0) + 16) σ46 else rt (((((0 : Int32) + 2) + 4) + 0) + 0) σ46)) else bn (sp_154 x1 σ45) (fun r47 σ47 => (if r47 = 1 then rt (((((0 : Int32) + 2) + 4) + 8) + 16) σ47 else rt (((((0 : Int32) + 2) + 4) + 8) + 0) σ47)))))))) else bn (sp_165 x1 σ32) (fun r48 σ48 => (if r48 = 0 then bn (sp_166 x1 σ48) (fun r49 σ49 => (if r49 = 0 then bn (sp_167 x1 σ49) (fun r50 σ50 => (if r50 = 0 then bn (sp_154 x1 σ50) (fun r51 σ51 => (if r51 = 1 then rt (((((1 : Int32) + 0) + 0) + 0) + 16) σ51 else rt (((((1 : Int32) + 0) + 0) + 0) + 0) σ51)) else bn (sp_154 x1 σ50) (fun r52 σ52 => (if r52 = 1 then rt (((((1 : Int32) + 0) + 0) + 8) + 16) σ52 else rt (((((1 : Int32) + 0) + 0) + 8) + 0) σ52)))) else bn (sp_167 x1 σ49) (fun r53 σ53 => (if r53 = 0 then bn (sp_154 x1 σ53) (fun r54 σ54 => (if r54 = 1 then rt (((((1 : Int32) + 0) + 4) + 0) + 16) σ54 else rt (((((1 : Int32) + 0) + 4) + 0) + 0) σ54)) else bn (sp_154 x1 σ53) (fun r55 σ55 => (if r55 = 1 then rt (((((1 : Int32) + 0) + 4) + 8) + 16) σ55 else rt (((((1 : Int32) + 0) + 4) + 8) + 0) σ55)))))) else bn (sp_166 x1 σ48) (fun r56 σ56 => (if r56 = 0 then bn (sp_167 x1 σ56) (fun r57 σ57 => (if r57 = 0 then bn (sp_154 x1 σ57) (fun r58 σ58 => (if r58 = 1 then rt (((((1 : Int32) + 2) + 0) + 0) + 16) σ58 else rt (((((1 : Int32) + 2) + 0) + 0) + 0) σ58)) else bn (sp_154 x1 σ57) (fun r59 σ59 => (if r59 = 1 then rt (((((1 : Int32) + 2) + 0) + 8) + 16) σ59 else rt (((((1 : Int32) + 2) + 0) + 8) + 0) σ59)))) else bn (sp_167 x1 σ56) (fun r60 σ60 => (if r60 = 0 then bn (sp_154 x1 σ60) (fun r61 σ61 => (if r61 = 1 then rt (((((1 : Int32) + 2) + 4) + 0) + 16) σ61 else rt (((((1 : Int32) + 2) + 4) + 0) + 0) σ61)) else bn (sp_154 x1 σ60) (fun r62 σ62 => (if r62 = 1 then rt (((((1 : Int32) + 2) + 4) + 8) + 16) σ62 else rt (((((1 : Int32) + 2) + 4) + 8) + 0) σ62))))))))))
/-- TradeTestsModel.alike -/
def sp_169 (x1 : Int32) (σ : St) : MR := bn (sp_140 x1 σ) (fun r4 σ4 => (if r4 = 0 then bn (sp_125 1 σ4) (fun r5 σ5 => rt r5 σ5) else bn (sp_163 x1 σ4) (fun r6 σ6 => rt r6 σ6)))
/-- TradeTestsModel.pointsOf -/
def lp_175_58 (v1 : Int32) (v2 : Int32) (σ : St) : MR := mb (vp_in v1 80) ((if (σ 71 (v1).toNatClampNeg) = 0 then bn (sp_176 v1 σ) (fun r20 σ20 => bn (sp_160 r20 σ20) (fun r21 σ21 => rt (v2 + ((10 : Int32) * r21)) σ21)) else bn (sp_176 v1 σ) (fun r22 σ22 => bn (sp_160 r22 σ22) (fun r23 σ23 => rt ((0 : Int32) + ((10 : Int32) * r23)) σ23))))
def sp_175 (x1 : Int32) (σ : St) : MR := bn (sp_154 x1 σ) (fun r24 σ24 => (if r24 = 1 then bn (sp_165 x1 σ24) (fun r32 σ32 => (if r32 = 0 then bn (sp_166 x1 σ32) (fun r33 σ33 => (if r33 = 0 then bn (sp_167 x1 σ33) (fun r34 σ34 => (if r34 = 0 then lp_175_58 x1 ((((6 : Int32) + 0) + 0) + 0) σ34 else lp_175_58 x1 ((((6 : Int32) + 0) + 0) + 1) σ34)) else bn (sp_167 x1 σ33) (fun r35 σ35 => (if r35 = 0 then lp_175_58 x1 ((((6 : Int32) + 0) + 4) + 0) σ35 else lp_175_58 x1 ((((6 : Int32) + 0) + 4) + 1) σ35)))) else bn (sp_166 x1 σ32) (fun r36 σ36 => (if r36 = 0 then bn (sp_167 x1 σ36) (fun r37 σ37 => (if r37 = 0 then lp_175_58 x1 ((((6 : Int32) + 2) + 0) + 0) σ37 else lp_175_58 x1 ((((6 : Int32) + 2) + 0) + 1) σ37)) else bn (sp_167 x1 σ36) (fun r38 σ38 => (if r38 = 0 then lp_175_58 x1 ((((6 : Int32) + 2) + 4) + 0) σ38 else lp_175_58 x1 ((((6 : Int32) + 2) + 4) + 1) σ38)))))) else bn (sp_165 x1 σ24) (fun r25 σ25 => (if r25 = 0 then bn (sp_166 x1 σ25) (fun r26 σ26 => (if r26 = 0 then bn (sp_167 x1 σ26) (fun r27 σ27 => (if r27 = 0 then lp_175_58 x1 ((((0 : Int32) + 0) + 0) + 0) σ27 else lp_175_58 x1 ((((0 : Int32) + 0) + 0) + 1) σ27)) else bn (sp_167 x1 σ26) (fun r28 σ28 => (if r28 = 0 then lp_175_58 x1 ((((0 : Int32) + 0) + 4) + 0) σ28 else lp_175_58 x1 ((((0 : Int32) + 0) + 4) + 1) σ28)))) else bn (sp_166 x1 σ25) (fun r29 σ29 => (if r29 = 0 then bn (sp_167 x1 σ29) (fun r30 σ30 => (if r30 = 0 then lp_175_58 x1 ((((0 : Int32) + 2) + 0) + 0) σ30 else lp_175_58 x1 ((((0 : Int32) + 2) + 0) + 1) σ30)) else bn (sp_167 x1 σ29) (fun r31 σ31 => (if r31 = 0 then lp_175_58 x1 ((((0 : Int32) + 2) + 4) + 0) σ31 else lp_175_58 x1 ((((0 : Int32) + 2) + 4) + 1) σ31))))))))
/-- TradeTestsModel.leansOn -/
def lp_190_5 : Nat → Int32 → Int32 → Int32 → Int32 → St → MR
  | 0, _, _, _, _, _ => bad
  | n + 1, v1, v2, v3, v4, σ => (if (σ 12 4) ≤ v4 then (if v3 < 0 then rt 0 σ else bn (sp_154 v3 σ) (fun r3 σ3 => (if r3 = 1 then mb (vp_in v3 80) (bn (sp_129 v1 σ3) (fun r4 σ4 => (if ((σ3 61 (v3).toNatClampNeg) + r4) < v2 then rt 0 σ4 else rt 1 σ4))) else rt 0 σ3))) else mb (vp_in v4 80) ((if (σ 59 (v4).toNatClampNeg) = v1 then mb (vp_in v4 80) ((if v2 < (σ 61 (v4).toNatClampNeg) then lp_190_5 n v1 v2 v3 (v4 + 1) σ else lp_190_5 n v1 v2 v4 (v4 + 1) σ)) else lp_190_5 n v1 v2 v3 (v4 + 1) σ)))
def sp_190 (x1 x2 : Int32) (σ : St) : MR := lp_190_5 FU x1 x2 (-1) 0 σ
/-- TradeTests$Texts.readRows -/
def lp_31_7 : Nat → Int32 → St → MR
  | 0, _, _ => bad
  | n + 1, v1, σ => (if 60 ≤ v1 then mb ((1 : Int32) = 0 ∨ (1 : Int32) = 1) (rt 1 σ) else (if (σ 4 1) ≤ (σ 4 2) then mb ((1 : Int32) = 0 ∨ (1 : Int32) = 1) (rt 1 σ) else bn (sp_32  σ) (fun r2 σ2 => (if r2 = 0 then mb ((0 : Int32) = 0 ∨ (0 : Int32) = 1) (rt 0 σ2) else lp_31_7 n (v1 + 1) σ2))))
def sp_31 (σ : St) : MR := lp_31_7 FU 0 (up σ 4 2 0)
/-- TradeTests$Plan.survey -/
def lp_49_12 : Nat → Int32 → Int32 → St → MR
  | 0, _, _, _ => bad
  | n + 1, v1, v2, σ => (if (σ 3 14) ≤ v2 then rt 0 σ else bn (sp_24 v2 σ) (fun r5 σ5 => (if r5 = v1 then bn (sp_50 v2 σ5) (fun r6 σ6 => bn (sp_59 r6 σ6) (fun r7 σ7 => bn (sp_60 v2 (up σ7 11 6 ((σ5 11 6) + r7))) (fun r8 σ8 => lp_49_12 n v1 (v2 + 1) (up σ8 11 7 ((σ7 11 7) ||| r8))))) else lp_49_12 n v1 (v2 + 1) σ5)))
def sp_49 (x1 : Int32) (σ : St) : MR := lp_49_12 FU x1 0 (up (up σ 11 6 1) 11 7 0)
/-- TradeTests$Rates.figure -/
def sp_62 (x1 x2 : Int32) (σ : St) : MR := bn (sp_63  σ) (fun r5 σ5 => bn (sp_66 x1 σ5) (fun r6 σ6 => (if x2 = 0 then rt (σ6 7 5) σ6 else (if x2 = 1 then rt (σ6 7 6) σ6 else (if x2 = 2 then rt (σ6 7 7) σ6 else (if x2 = 3 then rt (σ6 7 8) σ6 else (if x2 = 4 then bn (sp_68  σ6) (fun r8 σ8 => rt r8 σ8) else bn (sp_69  σ6) (fun r7 σ7 => rt r7 σ7))))))))
/-- TradeTests.share -/
def sp_71 (x1 x2 : Int32) (σ : St) : MR := bn (sp_1 x1 4 σ) (fun r7 σ7 => (if r7 = 0 then bn (sp_2 1 σ7) (fun r8 σ8 => rt r8 σ8) else bn (sp_1 x2 4 σ7) (fun r9 σ9 => (if r9 = 0 then bn (sp_2 1 σ9) (fun r12 σ12 => rt r12 σ12) else bn (sp_72 x1 x2 σ9) (fun r10 σ10 => (if 0 ≤ r10 then rt r10 σ10 else bn (sp_2 2 σ10) (fun r11 σ11 => rt r11 σ11)))))))
/-- TradeTests.signs -/
def sp_73 (x1 : Int32) (σ : St) : MR := bn (sp_1 x1 (σ 3 14) σ) (fun r4 σ4 => (if r4 = 0 then bn (sp_2 1 σ4) (fun r6 σ6 => rt r6 σ6) else bn (sp_50 x1 σ4) (fun r5 σ5 => rt r5 σ5)))
/-- TradeTests.points -/
def sp_84 (x1 : Int32) (σ : St) : MR := bn (sp_1 x1 (σ 3 14) σ) (fun r4 σ4 => (if r4 = 0 then bn (sp_2 1 σ4) (fun r6 σ6 => rt r6 σ6) else bn (sp_85 x1 σ4) (fun r5 σ5 => rt r5 σ5)))
/-- TradeTests$Penalties.fillPoints -/
def lp_89_2 : Nat → Int32 → Int32 → St → MR
  | 0, _, _, _ => bad
  | n + 1, v1, v2, σ => (if (σ 3 14) ≤ v2 then rt 0 σ else mb (vp_in v2 80) ((if (σ 25 (v2).toNatClampNeg) = v1 then bn (sp_85 v2 σ) (fun r2 σ2 => mb (vp_in v2 80) (lp_89_2 n v1 (v2 + 1) (up σ2 47 (v2).toNatClampNeg r2))) else mb (vp_in v2 80) (lp_89_2 n v1 (v2 + 1) (up σ 47 (v2).toNatClampNeg 0)))))
def sp_89 (x1 : Int32) (σ : St) : MR := lp_89_2 FU x1 0 σ
/-- TradeTests.leans -/
def lp_115_59 : Nat → Int32 → Int32 → Int32 → Int32 → St → MR
  | 0, _, _, _, _, _ => bad
  | n + 1, v1, v2, v3, v4, σ => (if (σ 1 3) ≤ v4 then rt v3 σ else bn (sp_116 v4 v2 σ) (fun r7 σ7 => (if r7 = 0 then lp_115_59 n v1 v2 v3 (v4 + 1) σ7 else lp_115_59 n v1 v2 (v3 + 1) (v4 + 1) σ7)))
def sp_115 (x1 x2 : Int32) (σ : St) : MR := (if x1 < (-1) then bn (sp_2 1 σ) (fun r8 σ8 => rt r8 σ8) else (if (σ 1 3) ≤ x1 then bn (sp_2 1 σ) (fun r9 σ9 => rt r9 σ9) else bn (sp_1 x2 10000 σ) (fun r10 σ10 => (if r10 = 0 then bn (sp_2 1 σ10) (fun r12 σ12 => rt r12 σ12) else (if x1 < 0 then lp_115_59 FU x1 x2 0 0 σ10 else bn (sp_116 x1 x2 σ10) (fun r11 σ11 => (if r11 = 0 then rt 0 σ11 else rt 1 σ11)))))))
/-- TradeTests$Signals.testsWithSigns -/
def lp_120_4 : Nat → Int32 → Int32 → St → MR
  | 0, _, _, _ => bad
  | n + 1, v1, v2, σ => (if (σ 3 14) ≤ v2 then rt v1 σ else bn (sp_50 v2 σ) (fun r2 σ2 => (if r2 = 0 then lp_120_4 n v1 (v2 + 1) σ2 else lp_120_4 n (v1 + 1) (v2 + 1) σ2)))
def sp_120 (σ : St) : MR := lp_120_4 FU 0 0 σ
/-- TradeTestsModel.riskOf -/
def lp_161_4 : Nat → Int32 → Int32 → Int32 → St → MR
  | 0, _, _, _, _ => bad
  | n + 1, v1, v2, v3, σ => (if (σ 12 4) ≤ v3 then rt v2 σ else bn (sp_141 v3 σ) (fun r4 σ4 => (if r4 = v1 then bn (sp_162 v3 σ4) (fun r5 σ5 => bn (sp_160 r5 σ5) (fun r6 σ6 => lp_161_4 n v1 (v2 + r6) (v3 + 1) σ6)) else lp_161_4 n v1 (v2 + 0) (v3 + 1) σ4)))
def sp_161 (x1 : Int32) (σ : St) : MR := lp_161_4 FU x1 1 0 σ
/-- TradeTestsModel.signs -/
def sp_168 (x1 : Int32) (σ : St) : MR := bn (sp_140 x1 σ) (fun r4 σ4 => (if r4 = 0 then bn (sp_125 1 σ4) (fun r5 σ5 => rt r5 σ5) else bn (sp_162 x1 σ4) (fun r6 σ6 => rt r6 σ6)))
/-- TradeTestsModel.points -/
def sp_174 (x1 : Int32) (σ : St) : MR := bn (sp_140 x1 σ) (fun r4 σ4 => (if r4 = 0 then bn (sp_125 1 σ4) (fun r5 σ5 => rt r5 σ5) else bn (sp_175 x1 σ4) (fun r6 σ6 => rt r6 σ6)))
/-- TradeTestsModel.findPoints -/
def lp_178_2 : Nat → Int32 → St → MR
  | 0, _, _ => bad
  | n + 1, v1, σ => (if (σ 12 4) ≤ v1 then rt 0 σ else bn (sp_175 v1 σ) (fun r2 σ2 => mb (vp_in v1 80) (lp_178_2 n (v1 + 1) (up σ2 81 (v1).toNatClampNeg r2))))
def sp_178 (σ : St) : MR := lp_178_2 FU 0 σ
/-- TradeTestsModel.leans -/
def lp_189_43 : Nat → Int32 → Int32 → Int32 → Int32 → St → MR
  | 0, _, _, _, _, _ => bad
  | n + 1, v1, v2, v3, v4, σ => (if (σ 12 0) ≤ v4 then rt v3 σ else bn (sp_190 v4 v2 σ) (fun r7 σ7 => lp_189_43 n v1 v2 (v3 + r7) (v4 + 1) σ7))
def sp_189 (x1 x2 : Int32) (σ : St) : MR := bn (sp_123 x1 (-1) ((σ 12 0) - 1) σ) (fun r8 σ8 => (if r8 = 0 then bn (sp_125 1 σ8) (fun r9 σ9 => rt r9 σ9) else bn (sp_124 x2 σ8) (fun r10 σ10 => (if r10 = 0 then bn (sp_125 1 σ10) (fun r12 σ12 => rt r12 σ12) else (if x1 < 0 then lp_189_43 FU x1 x2 0 0 σ10 else bn (sp_190 x1 x2 σ10) (fun r11 σ11 => rt r11 σ11))))))
/-- TradeTestsModel.count -/
def lp_193_112 : Nat → Int32 → Int32 → Int32 → St → MR
  | 0, _, _, _, _ => bad
  | n + 1, v1, v2, v3, σ => (if (σ 12 4) ≤ v3 then rt v2 σ else bn (sp_162 v3 σ) (fun r3 σ3 => (if r3 ≤ 0 then lp_193_112 n v1 (v2 + 0) (v3 + 1) σ3 else lp_193_112 n v1 (v2 + 1) (v3 + 1) σ3)))
def sp_193 (x1 : Int32) (σ : St) : MR := (if x1 = 0 then rt (σ 12 0) σ else (if x1 = 1 then rt (σ 12 1) σ else (if x1 = 2 then rt (σ 12 2) σ else (if x1 = 3 then rt (σ 12 4) σ else (if x1 = 4 then rt (σ 12 5) σ else (if x1 = 5 then rt (σ 12 6) σ else (if x1 = 6 then rt (σ 12 7) σ else (if x1 = 7 then rt (σ 12 8) σ else (if x1 = 8 then rt (σ 12 9) σ else (if x1 = 9 then rt (σ 12 10) σ else (if x1 = 10 then lp_193_112 FU x1 0 0 σ else bn (sp_125 1 σ) (fun r4 σ4 => rt r4 σ4))))))))))))
/-- TradeTests$Texts.takeTape -/
def sp_29 (x1 : Int32) (σ : St) : MR := bn (sp_30  σ) (fun r3 σ3 => bn (sp_31  σ3) (fun r4 σ4 => (if r4 = 0 then rt (σ4 4 2) (up σ4 4 1 0) else mb (vp_in (σ4 4 7) 6) (rt (-1) (up (up (up σ4 4 1 0) 39 (σ4 4 7).toNatClampNeg x1) 4 7 ((σ4 4 7) + 1))))))
/-- TradeTests$Plan.riskOf -/
def sp_48 (x1 : Int32) (σ : St) : MR := bn (sp_49 x1 σ) (fun r2 σ2 => rt (σ2 11 6) σ2)
/-- TradeTests$Penalties.ofTester -/
def sp_88 (x1 x2 : Int32) (σ : St) : MR := bn (sp_89 x1 σ) (fun r3 σ3 => bn (sp_90 x2 σ3) (fun r4 σ4 => rt r4 σ4))
/-- TradeTests$Penalties.isBanned -/
def lp_92_35 : Nat → Int32 → Int32 → Int32 → Int32 → St → MR
  | 0, _, _, _, _, _ => bad
  | n + 1, v1, v2, v3, v4, σ => (if (σ 3 14) ≤ v4 then mb ((0 : Int32) = 0 ∨ (0 : Int32) = 1) (rt 0 σ) else mb (vp_in v4 80) ((if (σ 26 (v4).toNatClampNeg) ≤ v3 then (if (0 : Int32) = 0 then lp_92_35 n v1 v2 v3 (v4 + 1) σ else mb (vp_in v4 80) ((if (σ 47 (v4).toNatClampNeg) ≤ 0 then lp_92_35 n v1 v2 v3 (v4 + 1) σ else mb (vp_in v4 80) (bn (sp_90 (σ 26 (v4).toNatClampNeg) σ) (fun r6 σ6 => mb (vp_in 2 3) ((if r6 < (σ6 46 (2 : Int32).toNatClampNeg) then lp_92_35 n v1 v2 v3 (v4 + 1) σ6 else mb ((1 : Int32) = 0 ∨ (1 : Int32) = 1) (rt 1 σ6)))))))) else mb (vp_in v4 80) ((if v2 < (σ 26 (v4).toNatClampNeg) then (if (0 : Int32) = 0 then lp_92_35 n v1 v2 v3 (v4 + 1) σ else mb (vp_in v4 80) ((if (σ 47 (v4).toNatClampNeg) ≤ 0 then lp_92_35 n v1 v2 v3 (v4 + 1) σ else mb (vp_in v4 80) (bn (sp_90 (σ 26 (v4).toNatClampNeg) σ) (fun r7 σ7 => mb (vp_in 2 3) ((if r7 < (σ7 46 (2 : Int32).toNatClampNeg) then lp_92_35 n v1 v2 v3 (v4 + 1) σ7 else mb ((1 : Int32) = 0 ∨ (1 : Int32) = 1) (rt 1 σ7)))))))) else (if (1 : Int32) = 0 then lp_92_35 n v1 v2 v3 (v4 + 1) σ else mb (vp_in v4 80) ((if (σ 47 (v4).toNatClampNeg) ≤ 0 then lp_92_35 n v1 v2 v3 (v4 + 1) σ else mb (vp_in v4 80) (bn (sp_90 (σ 26 (v4).toNatClampNeg) σ) (fun r8 σ8 => mb (vp_in 2 3) ((if r8 < (σ8 46 (2 : Int32).toNatClampNeg) then lp_92_35 n v1 v2 v3 (v4 + 1) σ8 else mb ((1 : Int32) = 0 ∨ (1 : Int32) = 1) (rt 1 σ8)))))))))))))
def sp_92 (x1 x2 : Int32) (σ : St) : MR := bn (sp_89 x1 σ) (fun r9 σ9 => mb (vp_in 1 3) (bn (sp_90 ((x2 - (σ9 46 (1 : Int32).toNatClampNeg)) + 1) σ9) (fun r10 σ10 => mb (vp_in 2 3) ((if r10 < (σ10 46 (2 : Int32).toNatClampNeg) then lp_92_35 FU x1 x2 ((x2 - (σ9 46 (1 : Int32).toNatClampNeg)) + 1) 0 σ10 else mb ((1 : Int32) = 0 ∨ (1 : Int32) = 1) (rt 1 σ10))))))
/-- TradeTests$Plan.worthOf -/
def sp_98 (x1 x2 : Int32) (σ : St) : MR := bn (sp_49 x2 σ) (fun r3 σ3 => bn (sp_99 x1 σ3) (fun r4 σ4 => rt ((σ3 11 6) * r4) σ4))
/-- TradeTests$Plan.fillWorths -/
def lp_101_20 (ko : Int32 → St → MR) : Nat → Int32 → Int32 → St → MR
  | 0, _, _, _ => bad
  | n + 1, v1, v2, σ => (if (σ 9 3) ≤ v2 then ko (v1 + 1) σ else bn (sp_99 v2 σ) (fun r3 σ3 => mb (vp_in ((v2 * 6) + v1) 36) (lp_101_20 ko n v1 (v2 + 1) (up σ3 48 ((v2 * 6) + v1).toNatClampNeg ((σ 11 6) * r3)))))
def lp_101_2 : Nat → Int32 → St → MR
  | 0, _, _ => bad
  | n + 1, v1, σ => (if (σ 2 2) ≤ v1 then rt 0 σ else bn (sp_49 v1 σ) (fun r4 σ4 => lp_101_20 (fun v1 σ => lp_101_2 n v1 σ) FU v1 0 σ4))
def sp_101 (σ : St) : MR := lp_101_2 FU 0 σ
/-- TradeTests.count -/
def sp_119 (x1 : Int32) (σ : St) : MR := (if x1 = 0 then rt (σ 1 3) σ else (if x1 = 1 then rt (σ 2 2) σ else (if x1 = 2 then rt (σ 2 4) σ else (if x1 = 3 then rt (σ 3 14) σ else (if x1 = 4 then rt (σ 4 7) σ else (if x1 = 5 then rt (σ 9 3) σ else (if x1 = 6 then rt (σ 9 4) σ else (if x1 = 7 then rt (σ 3 15) σ else (if x1 = 8 then rt (σ 4 1) σ else (if x1 = 9 then rt (σ 0 12) σ else (if x1 = 10 then bn (sp_120  σ) (fun r4 σ4 => rt r4 σ4) else bn (sp_2 1 σ) (fun r3 σ3 => rt r3 σ3))))))))))))
/-- TradeTestsModel.rate -/
def lp_158_38 : Nat → Int32 → Int32 → Int32 → Int32 → Int32 → Int32 → Int32 → St → MR
  | 0, _, _, _, _, _, _, _, _ => bad
  | n + 1, v1, v2, v3, v4, v5, v6, v7, σ => (if (σ 12 4) ≤ v7 then (if v2 = 0 then rt v3 σ else (if v2 = 1 then rt v4 σ else (if v2 = 2 then rt v5 σ else (if v2 = 3 then rt v6 σ else (if v2 = 4 then rt ((((Int32.toInt64 1000) * v4.toInt64) - v5.toInt64).toInt32) σ else (if v2 = 5 then bn (sp_159  σ) (fun r11 σ11 => (if 0 < (lg_cmp ((((Int32.toInt64 1000) * v4.toInt64) - v5.toInt64) * (((Int32.toInt64 1000) * v4.toInt64) - v5.toInt64)) (v6.toInt64 * (((4 : Int32) + r11).toInt64))) then (if (lg_cmp (((Int32.toInt64 1000) * v4.toInt64) - v5.toInt64) (Int32.toInt64 0)) ≤ 0 then rt 2 σ11 else rt 1 σ11) else rt 0 σ11)) else bn (sp_161 v1 σ) (fun r10 σ10 => rt r10 σ10))))))) else bn (sp_141 v7 σ) (fun r12 σ12 => (if r12 = v1 then bn (sp_157 v7 σ12) (fun r13 σ13 => bn (sp_156 r13 σ13) (fun r14 σ14 => mb (vp_in v7 80) ((if (σ14 70 (v7).toNatClampNeg) = 0 then lp_158_38 n v1 v2 (v3 + 1) (v4 + 0) (v5 + r14) (v6 + (r14 * ((1000 : Int32) - r14))) (v7 + 1) σ14 else lp_158_38 n v1 v2 (v3 + 1) (v4 + 1) (v5 + r14) (v6 + (r14 * ((1000 : Int32) - r14))) (v7 + 1) σ14)))) else lp_158_38 n v1 v2 v3 v4 v5 v6 (v7 + 1) σ12)))
def sp_158 (x1 x2 : Int32) (σ : St) : MR := bn (sp_132 x1 σ) (fun r15 σ15 => (if r15 = 0 then bn (sp_125 1 σ15) (fun r16 σ16 => rt r16 σ16) else bn (sp_123 x2 0 6 σ15) (fun r17 σ17 => (if r17 = 0 then bn (sp_125 1 σ17) (fun r18 σ18 => rt r18 σ18) else lp_158_38 FU x1 x2 0 0 0 0 0 σ17))))
/-- TradeTestsModel.sum -/
def sp_177 (x1 x2 : Int32) (σ : St) : MR := bn (sp_134 x1 σ) (fun r7 σ7 => (if r7 = 0 then bn (sp_125 1 σ7) (fun r8 σ8 => rt r8 σ8) else bn (sp_124 x2 σ7) (fun r9 σ9 => (if r9 = 0 then bn (sp_125 1 σ9) (fun r12 σ12 => rt r12 σ12) else bn (sp_178  σ9) (fun r10 σ10 => bn (sp_179 x1 x2 σ10) (fun r11 σ11 => rt r11 σ11))))))
/-- TradeTestsModel.banned -/
def lp_180_27 : Nat → Int32 → Int32 → Int32 → St → MR
  | 0, _, _, _, _ => bad
  | n + 1, v1, v2, v3, σ => (if v3 ≤ (v2 - (σ 12 12)) then rt 0 σ else (if v3 < 0 then rt 0 σ else bn (sp_179 v1 v3 σ) (fun r7 σ7 => (if r7 < (σ7 12 13) then lp_180_27 n v1 v2 (v3 + (-1)) σ7 else rt 1 σ7))))
def sp_180 (x1 x2 : Int32) (σ : St) : MR := bn (sp_134 x1 σ) (fun r8 σ8 => (if r8 = 0 then bn (sp_125 1 σ8) (fun r9 σ9 => rt r9 σ9) else bn (sp_124 x2 σ8) (fun r10 σ10 => (if r10 = 0 then bn (sp_125 1 σ10) (fun r12 σ12 => rt r12 σ12) else bn (sp_178  σ10) (fun r11 σ11 => lp_180_27 FU x1 x2 x2 σ11)))))
/-- TradeTestsModel.worthOf -/
def lp_184_5 : Nat → Int32 → Int32 → Int32 → Int32 → St → MR
  | 0, _, _, _, _, _ => bad
  | n + 1, v1, v2, v3, v4, σ => (if (σ 12 4) ≤ v4 then bn (sp_161 v2 σ) (fun r4 σ4 => mb (vp_in v1 6) (bn (sp_160 ((σ4 77 (v1).toNatClampNeg) &&& (v3 ^^^ (-1))) σ4) (fun r5 σ5 => rt (r4 * r5) σ5))) else mb (vp_in v4 80) ((if (σ 68 (v4).toNatClampNeg) < 0 then lp_184_5 n v1 v2 (v3 ||| 0) (v4 + 1) σ else bn (sp_141 v4 σ) (fun r6 σ6 => (if r6 = v2 then mb (vp_in v4 80) (mb (vp_in (σ6 68 (v4).toNatClampNeg) 6) (lp_184_5 n v1 v2 (v3 ||| (σ6 77 (σ6 68 (v4).toNatClampNeg).toNatClampNeg)) (v4 + 1) σ6)) else lp_184_5 n v1 v2 (v3 ||| 0) (v4 + 1) σ6)))))
def sp_184 (x1 x2 : Int32) (σ : St) : MR := lp_184_5 FU x1 x2 0 0 σ
/-- TradeTestsModel.check -/
def lp_192_29 : Nat → Int32 → Int32 → Int32 → St → MR
  | 0, _, _, _, _ => bad
  | n + 1, v1, v2, v3, σ => (if v2 ≤ v3 then rt 0 σ else (if (σ 12 2) ≤ v3 then rt ((1 : Int32) + v3) σ else bn (sp_179 v3 v1 σ) (fun r5 σ5 => mb (vp_in v3 8) ((if r5 = (σ5 79 (v3).toNatClampNeg) then lp_192_29 n v1 v2 (v3 + 1) σ5 else rt ((1 : Int32) + v3) σ5)))))
def sp_192 (x1 : Int32) (σ : St) : MR := bn (sp_124 x1 (up σ 12 10 0)) (fun r6 σ6 => (if r6 = 0 then bn (sp_125 1 σ6) (fun r8 σ8 => rt r8 σ8) else bn (sp_178  σ6) (fun r7 σ7 => lp_192_29 FU x1 (σ 12 10) 0 σ7)))
/-- TradeTests.text -/
def sp_28 (x1 : Int32) (σ : St) : MR := bn (sp_1 x1 10000 σ) (fun r5 σ5 => (if r5 = 0 then bn (sp_2 1 σ5) (fun r8 σ8 => rt r8 σ8) else (if (σ5 4 7) < 6 then bn (sp_29 x1 σ5) (fun r6 σ6 => (if 0 ≤ r6 then rt ((-10 : Int32) - r6) σ6 else rt (σ6 4 7) σ6)) else bn (sp_2 4 σ5) (fun r7 σ7 => rt r7 σ7))))
/-- TradeTests.rate -/
def sp_47 (x1 x2 : Int32) (σ : St) : MR := bn (sp_1 x1 (σ 2 2) σ) (fun r7 σ7 => (if r7 = 0 then bn (sp_2 1 σ7) (fun r8 σ8 => rt r8 σ8) else bn (sp_1 x2 7 σ7) (fun r9 σ9 => (if r9 = 0 then bn (sp_2 1 σ9) (fun r12 σ12 => rt r12 σ12) else (if x2 = 6 then bn (sp_48 x1 σ9) (fun r11 σ11 => rt r11 σ11) else bn (sp_62 x1 x2 σ9) (fun r10 σ10 => rt r10 σ10))))))
/-- TradeTests.sum -/
def sp_87 (x1 x2 : Int32) (σ : St) : MR := bn (sp_1 x1 (σ 2 4) σ) (fun r6 σ6 => (if r6 = 0 then bn (sp_2 1 σ6) (fun r7 σ7 => rt r7 σ7) else bn (sp_1 x2 10000 σ6) (fun r8 σ8 => (if r8 = 0 then bn (sp_2 1 σ8) (fun r10 σ10 => rt r10 σ10) else bn (sp_88 x1 x2 σ8) (fun r9 σ9 => rt r9 σ9)))))
/-- TradeTests.banned -/
def sp_91 (x1 x2 : Int32) (σ : St) : MR := bn (sp_1 x1 (σ 2 4) σ) (fun r6 σ6 => (if r6 = 0 then bn (sp_2 1 σ6) (fun r7 σ7 => rt r7 σ7) else bn (sp_1 x2 10000 σ6) (fun r8 σ8 => (if r8 = 0 then bn (sp_2 1 σ8) (fun r10 σ10 => rt r10 σ10) else bn (sp_92 x1 x2 σ8) (fun r9 σ9 => (if r9 = 0 then rt 0 σ9 else rt 1 σ9))))))
/-- TradeTests.worth -/
def sp_97 (x1 x2 : Int32) (σ : St) : MR := bn (sp_1 x1 (σ 9 3) σ) (fun r6 σ6 => (if r6 = 0 then bn (sp_2 1 σ6) (fun r7 σ7 => rt r7 σ7) else bn (sp_1 x2 (σ6 2 2) σ6) (fun r8 σ8 => (if r8 = 0 then bn (sp_2 1 σ8) (fun r10 σ10 => rt r10 σ10) else bn (sp_98 x1 x2 σ8) (fun r9 σ9 => rt r9 σ9)))))
/-- TradeTests.plan -/
def sp_100 (x1 : Int32) (σ : St) : MR := (if x1 < (-1) then bn (sp_2 1 σ) (fun r8 σ8 => rt r8 σ8) else (if x1 < (σ 9 3) then bn (sp_101  σ) (fun r9 σ9 => bn (sp_102  σ9) (fun r10 σ10 => (if x1 = (-1) then bn (sp_107  σ10) (fun r13 σ13 => rt r13 σ13) else bn (sp_108 x1 σ10) (fun r11 σ11 => (if 0 ≤ r11 then rt r11 σ11 else bn (sp_2 2 σ11) (fun r12 σ12 => rt r12 σ12)))))) else bn (sp_2 1 σ) (fun r14 σ14 => rt r14 σ14)))
/-- TradeTests.check -/
def lp_118_28 : Nat → Int32 → Int32 → Int32 → St → MR
  | 0, _, _, _, _ => bad
  | n + 1, v1, v2, v3, σ => (if v2 ≤ v3 then rt 0 σ else (if (σ 2 4) ≤ v3 then rt ((1 : Int32) + v3) σ else mb (vp_in v3 8) (bn (sp_88 v3 v1 σ) (fun r4 σ4 => (if (σ 13 (v3).toNatClampNeg) = r4 then lp_118_28 n v1 v2 (v3 + 1) σ4 else rt ((1 : Int32) + v3) σ4)))))
def sp_118 (x1 : Int32) (σ : St) : MR := bn (sp_1 x1 10000 (up σ 0 12 0)) (fun r5 σ5 => (if r5 = 0 then bn (sp_2 1 σ5) (fun r6 σ6 => rt r6 σ6) else lp_118_28 FU x1 (σ 0 12) 0 σ5))
/-- TradeTestsModel.worth -/
def sp_183 (x1 x2 : Int32) (σ : St) : MR := bn (sp_123 x1 0 ((σ 12 6) - 1) σ) (fun r6 σ6 => (if r6 = 0 then bn (sp_125 1 σ6) (fun r7 σ7 => rt r7 σ7) else bn (sp_132 x2 σ6) (fun r8 σ8 => (if r8 = 0 then bn (sp_125 1 σ8) (fun r9 σ9 => rt r9 σ9) else bn (sp_184 x1 x2 σ8) (fun r10 σ10 => rt r10 σ10)))))
/-- TradeTestsModel.findPlan -/
def lp_186_241 (ko : Int32 → Int32 → St → MR) : Nat → Int32 → Int32 → Int32 → St → MR
  | 0, _, _, _, _ => bad
  | n + 1, v1, v2, v3, σ => (if v3 < 0 then mb (vp_in v2 6) ((if 0 ≤ (σ 84 (v2).toNatClampNeg) then mb (vp_in v2 6) (ko (v1 ||| ((1 : Int32) <<< ((σ 84 (v2).toNatClampNeg) &&& 31))) (v2 + 1) σ) else ko (v1 ||| 0) (v2 + 1) σ)) else (if ((v1 >>> (v3 &&& 31)) &&& 1) = 0 then mb (vp_in (((6 : Int32) * v2) + v3) 36) (mb (vp_in ((((64 : Int32) * v2) + 64) + (v1 ||| ((1 : Int32) <<< (v3 &&& 31)))) 448) (mb (vp_in (((64 : Int32) * v2) + v1) 448) ((if ((σ 83 (((6 : Int32) * v2) + v3).toNatClampNeg) + (σ 82 ((((64 : Int32) * v2) + 64) + (v1 ||| ((1 : Int32) <<< (v3 &&& 31)))).toNatClampNeg)) = (σ 82 (((64 : Int32) * v2) + v1).toNatClampNeg) then mb (vp_in v2 6) (lp_186_241 ko n v1 v2 (v3 + (-1)) (up σ 84 (v2).toNatClampNeg v3)) else lp_186_241 ko n v1 v2 (v3 + (-1)) σ)))) else lp_186_241 ko n v1 v2 (v3 + (-1)) σ))
def lp_186_219 : Nat → Int32 → Int32 → St → MR
  | 0, _, _, _ => bad
  | n + 1, v1, v2, σ => (if (σ 12 6) ≤ v2 then mb (vp_in 0 448) (rt (σ 82 (0 : Int32).toNatClampNeg) σ) else mb (vp_in v2 6) (lp_186_241 (fun v1 v2 σ => lp_186_219 n v1 v2 σ) FU v1 v2 ((σ 12 1) - 1) (up σ 84 (v2).toNatClampNeg (-1))))
def lp_186_115 (ko : Int32 → Int32 → St → MR) : Nat → Int32 → Int32 → Int32 → Int32 → St → MR
  | 0, _, _, _, _, _ => bad
  | n + 1, v1, v2, v3, v4, σ => (if (σ 12 1) ≤ v4 then mb (vp_in (((64 : Int32) * v1) + v2) 448) (ko v1 (v2 + 1) (up σ 82 (((64 : Int32) * v1) + v2).toNatClampNeg v3)) else (if ((v2 >>> (v4 &&& 31)) &&& 1) = 1 then (if (0 : Int32) ≤ v3 then lp_186_115 ko n v1 v2 v3 (v4 + 1) σ else lp_186_115 ko n v1 v2 0 (v4 + 1) σ) else mb (vp_in (((6 : Int32) * v1) + v4) 36) (mb (vp_in ((((64 : Int32) * v1) + 64) + (v2 ||| ((1 : Int32) <<< (v4 &&& 31)))) 448) ((if ((σ 83 (((6 : Int32) * v1) + v4).toNatClampNeg) + (σ 82 ((((64 : Int32) * v1) + 64) + (v2 ||| ((1 : Int32) <<< (v4 &&& 31)))).toNatClampNeg)) ≤ v3 then lp_186_115 ko n v1 v2 v3 (v4 + 1) σ else lp_186_115 ko n v1 v2 ((σ 83 (((6 : Int32) * v1) + v4).toNatClampNeg) + (σ 82 ((((64 : Int32) * v1) + 64) + (v2 ||| ((1 : Int32) <<< (v4 &&& 31)))).toNatClampNeg)) (v4 + 1) σ)))))
def lp_186_91 (ko : Int32 → St → MR) : Nat → Int32 → Int32 → St → MR
  | 0, _, _, _ => bad
  | n + 1, v1, v2, σ => (if 64 ≤ v2 then ko (v1 + (-1)) σ else mb (vp_in ((((64 : Int32) * v1) + 64) + v2) 448) (lp_186_115 (fun v1 v2 σ => lp_186_91 ko n v1 v2 σ) FU v1 v2 (σ 82 ((((64 : Int32) * v1) + 64) + v2).toNatClampNeg) 0 σ))
def lp_186_85 : Nat → Int32 → St → MR
  | 0, _, _ => bad
  | n + 1, v1, σ => (if v1 < 0 then lp_186_219 FU 0 0 σ else lp_186_91 (fun v1 σ => lp_186_85 n v1 σ) FU v1 0 σ)
def lp_186_51 : Nat → Int32 → St → MR
  | 0, _, _ => bad
  | n + 1, v1, σ => (if 64 ≤ v1 then lp_186_85 FU ((σ 12 6) - 1) σ else mb (vp_in (((64 : Int32) * (σ 12 6)) + v1) 448) (lp_186_51 n (v1 + 1) (up σ 82 (((64 : Int32) * (σ 12 6)) + v1).toNatClampNeg 0)))
def lp_186_12 (ko : Int32 → St → MR) : Nat → Int32 → Int32 → St → MR
  | 0, _, _, _ => bad
  | n + 1, v1, v2, σ => (if (σ 12 1) ≤ v2 then ko (v1 + 1) σ else bn (sp_184 v1 v2 σ) (fun r2 σ2 => mb (vp_in (((6 : Int32) * v1) + v2) 36) (lp_186_12 ko n v1 (v2 + 1) (up σ2 83 (((6 : Int32) * v1) + v2).toNatClampNeg r2))))
def lp_186_2 : Nat → Int32 → St → MR
  | 0, _, _ => bad
  | n + 1, v1, σ => (if (σ 12 6) ≤ v1 then lp_186_51 FU 0 σ else lp_186_12 (fun v1 σ => lp_186_2 n v1 σ) FU v1 0 σ)
def sp_186 (σ : St) : MR := lp_186_2 FU 0 σ
/-- TradeTestsModel.plan -/
def sp_185 (x1 : Int32) (σ : St) : MR := bn (sp_123 x1 (-1) ((σ 12 6) - 1) σ) (fun r5 σ5 => (if r5 = 0 then bn (sp_125 1 σ5) (fun r8 σ8 => rt r8 σ8) else bn (sp_186  σ5) (fun r6 σ6 => (if 0 ≤ x1 then mb (vp_in x1 6) ((if 0 ≤ (σ6 84 (x1).toNatClampNeg) then mb (vp_in x1 6) (rt (σ6 84 (x1).toNatClampNeg) σ6) else bn (sp_125 2 σ6) (fun r7 σ7 => rt r7 σ7))) else rt r6 σ6))))
