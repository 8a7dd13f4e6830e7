section MODEL
def F_X5_in (x : Int32) (y : Int32) (z : Int32) : Bool :=
  if x < y then false
  else (if z < x then false
    else true)
def F_X5_corridorAt (x : Int32) : Int32 :=
  if 40 < x then (if 105 ≤ (250 - (5 * (x - 40))) then (250 - (5 * (x - 40)))
    else 105)
  else 250
def F_X5_thrown (t : Int32) : Int32 :=
  t
def F_X5_acts (ke : Int32) : Int32 × Int32 :=
  (ke, 0)
def F_X5_month (kd : Int32) : Int32 × Int32 :=
  (kd, 0)
def F_X5_ageIn (ka : Int32) (m : Int32) : Int32 :=
  (ka + (m / 12))
def F_X5_deathSumIn (ka : Int32) (kb : Int32) (kc : Int32) (v : S7) (m : Int32) : Int64 :=
  if kc = 0 then (if 0 ≤ (lg_cmp kb.toInt64 ((v.2.1.toInt64 * (F_X5_corridorAt (F_X5_ageIn ka m)).toInt64) / 100)) then kb.toInt64
    else ((v.2.1.toInt64 * (F_X5_corridorAt (F_X5_ageIn ka m)).toInt64) / 100))
  else (if 0 ≤ (lg_cmp (kb.toInt64 + v.2.1.toInt64) ((v.2.1.toInt64 * (F_X5_corridorAt (F_X5_ageIn ka m)).toInt64) / 100)) then (kb.toInt64 + v.2.1.toInt64)
    else ((v.2.1.toInt64 * (F_X5_corridorAt (F_X5_ageIn ka m)).toInt64) / 100))
def F_X5_freePart (v : S7) : Int32 :=
  if v.2.1 ≤ v.2.2.1 then 0
  else (v.2.1 - v.2.2.1)
def F_X5_chargeIn (ka : Int32) (kb : Int32) (kc : Int32) (v : S7) (m : Int32) : Int32 :=
  if 30 < (F_X5_ageIn ka m) then (if 0 ≤ (lg_cmp ((F_X5_deathSumIn ka kb kc v m) - v.2.1.toInt64) 0) then (500 + ((((F_X5_deathSumIn ka kb kc v m) - v.2.1.toInt64) * (10 + (2 * ((F_X5_ageIn ka m) - 30))).toInt64) / 100000).toInt32)
    else (500 + ((0 * (10 + (2 * ((F_X5_ageIn ka m) - 30))).toInt64) / 100000).toInt32))
  else (if 0 ≤ (lg_cmp ((F_X5_deathSumIn ka kb kc v m) - v.2.1.toInt64) 0) then (500 + ((((F_X5_deathSumIn ka kb kc v m) - v.2.1.toInt64) * (10 : Int32).toInt64) / 100000).toInt32)
    else (500 + ((0 * (10 : Int32).toInt64) / 100000).toInt32))
def F_X5_start  : S7 :=
  (0, 0, 0, 0, 0, 0, (-1))
def F_X5_premium (v : S7) (x : Int32) : Bool × S7 :=
  if v.1 ≤ 1 then (if v.2.2.2.1 ≤ x then (if (v.2.2.2.1 - v.2.2.2.1) = 0 then (true, (0, (v.2.1 + (x - v.2.2.2.1)), v.2.2.1, (v.2.2.2.1 - v.2.2.2.1), 0, v.2.2.2.2.2.1, v.2.2.2.2.2.2))
      else (true, (v.1, (v.2.1 + (x - v.2.2.2.1)), v.2.2.1, (v.2.2.2.1 - v.2.2.2.1), v.2.2.2.2.1, v.2.2.2.2.2.1, v.2.2.2.2.2.2)))
    else (if (v.2.2.2.1 - x) = 0 then (true, (0, (v.2.1 + (x - x)), v.2.2.1, (v.2.2.2.1 - x), 0, v.2.2.2.2.2.1, v.2.2.2.2.2.2))
      else (true, (v.1, (v.2.1 + (x - x)), v.2.2.1, (v.2.2.2.1 - x), v.2.2.2.2.1, v.2.2.2.2.2.1, v.2.2.2.2.2.2))))
  else (false, v)
def F_X5_revive (v : S7) (x : Int32) : Bool × S7 :=
  if v.1 = 2 then (if 24 ≤ v.2.2.2.2.2.1 then (false, v)
    else (if (v.2.2.2.1 + (500 * v.2.2.2.2.2.1)) ≤ x then (true, (0, (x - (v.2.2.2.1 + (500 * v.2.2.2.2.2.1))), v.2.2.1, 0, 0, v.2.2.2.2.2.1, v.2.2.2.2.2.2))
      else (false, v)))
  else (false, v)
def F_X5_act (ka : Int32) (kb : Int32) (kc : Int32) (v : S7) (a : Int32) (x : Int32) (m : Int32) : Bool × S7 :=
  if a = 0 then ((F_X5_premium v x).1, ((F_X5_premium v x).2))
  else (if a = 1 then (if v.1 = 0 then (if (F_X5_freePart v) < x then (false, (v.1, v.2.1, (v.2.2.1 + 0), v.2.2.2.1, v.2.2.2.2.1, v.2.2.2.2.2.1, v.2.2.2.2.2.2))
        else (true, (v.1, v.2.1, (v.2.2.1 + x), v.2.2.2.1, v.2.2.2.2.1, v.2.2.2.2.2.1, v.2.2.2.2.2.2)))
      else (false, (v.1, v.2.1, (v.2.2.1 + 0), v.2.2.2.1, v.2.2.2.2.1, v.2.2.2.2.2.1, v.2.2.2.2.2.2)))
    else (if a = 2 then (if 1 < v.1 then (false, (v.1, v.2.1, (v.2.2.1 - 0), v.2.2.2.1, v.2.2.2.2.1, v.2.2.2.2.2.1, v.2.2.2.2.2.2))
        else (if v.2.2.1 < x then (false, (v.1, v.2.1, (v.2.2.1 - 0), v.2.2.2.1, v.2.2.2.2.1, v.2.2.2.2.2.1, v.2.2.2.2.2.2))
          else (true, (v.1, v.2.1, (v.2.2.1 - x), v.2.2.2.1, v.2.2.2.2.1, v.2.2.2.2.2.1, v.2.2.2.2.2.2))))
      else (if a = 3 then (if v.1 = 0 then (if (F_X5_freePart v) < x then (false, (v.1, (v.2.1 - 0), v.2.2.1, v.2.2.2.1, v.2.2.2.2.1, v.2.2.2.2.2.1, v.2.2.2.2.2.2))
            else (true, (v.1, (v.2.1 - x), v.2.2.1, v.2.2.2.1, v.2.2.2.2.1, v.2.2.2.2.2.1, v.2.2.2.2.2.2)))
          else (false, (v.1, (v.2.1 - 0), v.2.2.1, v.2.2.2.1, v.2.2.2.2.1, v.2.2.2.2.2.1, v.2.2.2.2.2.2)))
        else (if a = 4 then ((F_X5_revive v x).1, ((F_X5_revive v x).2))
          else (if 1 < v.1 then (false, v)
            else (if 0 ≤ (lg_cmp ((F_X5_deathSumIn ka kb kc v m) - v.2.2.1.toInt64) 0) then (true, (3, v.2.1, v.2.2.1, v.2.2.2.1, v.2.2.2.2.1, v.2.2.2.2.2.1, (((F_X5_deathSumIn ka kb kc v m) - v.2.2.1.toInt64).toInt32)))
              else (true, (3, v.2.1, v.2.2.1, v.2.2.2.1, v.2.2.2.2.1, v.2.2.2.2.2.1, 0))))))))
def F_X5_earn (v : S7) : S7 :=
  if v.2.2.1 ≤ v.2.1 then (if 0 ≤ (lg_cmp (v.2.1.toInt64 - v.2.2.1.toInt64) 1000000) then (v.1, (v.2.1 + ((((2 * v.2.2.1.toInt64) + (3 * 1000000)) + (4 * ((v.2.1.toInt64 - v.2.2.1.toInt64) - 1000000))) / 1200).toInt32), (v.2.2.1 + ((5 * v.2.2.1.toInt64) / 1200).toInt32), v.2.2.2.1, v.2.2.2.2.1, v.2.2.2.2.2.1, v.2.2.2.2.2.2)
    else (v.1, (v.2.1 + ((((2 * v.2.2.1.toInt64) + (3 * (v.2.1.toInt64 - v.2.2.1.toInt64))) + (4 * ((v.2.1.toInt64 - v.2.2.1.toInt64) - (v.2.1.toInt64 - v.2.2.1.toInt64)))) / 1200).toInt32), (v.2.2.1 + ((5 * v.2.2.1.toInt64) / 1200).toInt32), v.2.2.2.1, v.2.2.2.2.1, v.2.2.2.2.2.1, v.2.2.2.2.2.2))
  else (if 0 ≤ (lg_cmp (v.2.1.toInt64 - v.2.1.toInt64) 1000000) then (v.1, (v.2.1 + ((((2 * v.2.1.toInt64) + (3 * 1000000)) + (4 * ((v.2.1.toInt64 - v.2.1.toInt64) - 1000000))) / 1200).toInt32), (v.2.2.1 + ((5 * v.2.2.1.toInt64) / 1200).toInt32), v.2.2.2.1, v.2.2.2.2.1, v.2.2.2.2.2.1, v.2.2.2.2.2.2)
    else (v.1, (v.2.1 + ((((2 * v.2.1.toInt64) + (3 * (v.2.1.toInt64 - v.2.1.toInt64))) + (4 * ((v.2.1.toInt64 - v.2.1.toInt64) - (v.2.1.toInt64 - v.2.1.toInt64)))) / 1200).toInt32), (v.2.2.1 + ((5 * v.2.2.1.toInt64) / 1200).toInt32), v.2.2.2.1, v.2.2.2.2.1, v.2.2.2.2.2.1, v.2.2.2.2.2.2))
def F_X5_closeMonth (ka : Int32) (kb : Int32) (kc : Int32) (v : S7) (m : Int32) : S7 :=
  if v.1 = 2 then (if v.1 ≤ 1 then (if (F_X5_freePart (v.1, v.2.1, v.2.2.1, v.2.2.2.1, v.2.2.2.2.1, (v.2.2.2.2.2.1 + 1), v.2.2.2.2.2.2)) < ((F_X5_chargeIn ka kb kc (v.1, v.2.1, v.2.2.1, v.2.2.2.1, v.2.2.2.2.1, (v.2.2.2.2.2.1 + 1), v.2.2.2.2.2.2) m) + v.2.2.2.1) then (if (v.2.2.2.2.1 + 1) = 3 then (2, 0, 0, (v.2.2.2.1 + (F_X5_chargeIn ka kb kc (v.1, v.2.1, v.2.2.1, v.2.2.2.1, v.2.2.2.2.1, (v.2.2.2.2.2.1 + 1), v.2.2.2.2.2.2) m)), 0, 0, v.2.2.2.2.2.2)
        else (F_X5_earn (1, v.2.1, v.2.2.1, (v.2.2.2.1 + (F_X5_chargeIn ka kb kc (v.1, v.2.1, v.2.2.1, v.2.2.2.1, v.2.2.2.2.1, (v.2.2.2.2.2.1 + 1), v.2.2.2.2.2.2) m)), (v.2.2.2.2.1 + 1), (v.2.2.2.2.2.1 + 1), v.2.2.2.2.2.2)))
      else (F_X5_earn (0, (v.2.1 - ((F_X5_chargeIn ka kb kc (v.1, v.2.1, v.2.2.1, v.2.2.2.1, v.2.2.2.2.1, (v.2.2.2.2.2.1 + 1), v.2.2.2.2.2.2) m) + v.2.2.2.1)), v.2.2.1, 0, 0, (v.2.2.2.2.2.1 + 1), v.2.2.2.2.2.2)))
    else (v.1, v.2.1, v.2.2.1, v.2.2.2.1, v.2.2.2.2.1, (v.2.2.2.2.2.1 + 1), v.2.2.2.2.2.2))
  else (if v.1 ≤ 1 then (if (F_X5_freePart v) < ((F_X5_chargeIn ka kb kc v m) + v.2.2.2.1) then (if (v.2.2.2.2.1 + 1) = 3 then (2, 0, 0, (v.2.2.2.1 + (F_X5_chargeIn ka kb kc v m)), 0, 0, v.2.2.2.2.2.2)
        else (F_X5_earn (1, v.2.1, v.2.2.1, (v.2.2.2.1 + (F_X5_chargeIn ka kb kc v m)), (v.2.2.2.2.1 + 1), v.2.2.2.2.2.1, v.2.2.2.2.2.2)))
      else (F_X5_earn (0, (v.2.1 - ((F_X5_chargeIn ka kb kc v m) + v.2.2.2.1)), v.2.2.1, 0, 0, v.2.2.2.2.2.1, v.2.2.2.2.2.2)))
    else v)
def F_X5_begin (ka : Int32) (kb : Int32) (kc : Int32) (kd : Int32) (ke : Int32) (x1 : Int32) (x2 : Int32) (x3 : Int32) : Int32 × Int32 × Int32 × Int32 × Int32 × Int32 × Int32 :=
  if bI (F_X5_in x1 18 70) = 0 then (0, ka, kb, kc, kd, ke, 1)
  else (if bI (F_X5_in x2 100000 50000000) = 0 then (0, ka, kb, kc, kd, ke, 1)
    else (if bI (F_X5_in x3 0 1) = 0 then (0, ka, kb, kc, kd, ke, 1)
      else (kd, x1, x2, x3, 0, 0, 0)))
def F_X5_close (kd : Int32) (x : Int32) : Int32 × Int32 × Int32 :=
  if bI (F_X5_in x 1 24) = 0 then (0, kd, 1)
  else (if (kd + x) ≤ 120 then ((kd + x), (kd + x), 0)
    else (0, kd, 2))
def F_X5_corridor (x : Int32) : Int32 × Int32 :=
  if bI (F_X5_in x 18 120) = 0 then (0, 1)
  else ((F_X5_corridorAt x), 0)
def Lp_X5_doActs (ka : Int32) (kb : Int32) (kc : Int32) (mo : (Nat → Int32)) (ki : (Nat → Int32)) (am : (Nat → Int32)) (sk : (Nat → Bool)) (m : Int32) : Nat → Nat → S7 → (Nat → Bool) → S7 × (Nat → Bool)
  | 0, i, v9, dn9 => (v9, dn9)
  | d + 1, i, v9, dn9 => if (mo (nI i).toNatClampNeg) = m then (if bI (sk (nI i).toNatClampNeg) = 0 then Lp_X5_doActs ka kb kc mo ki am sk m d (i + 1) ((F_X5_act ka kb kc v9 (ki (nI i).toNatClampNeg) (am (nI i).toNatClampNeg) m).2) (updB dn9 (nI i).toNatClampNeg ((F_X5_act ka kb kc v9 (ki (nI i).toNatClampNeg) (am (nI i).toNatClampNeg) m).1))
    else Lp_X5_doActs ka kb kc mo ki am sk m d (i + 1) v9 dn9)
  else Lp_X5_doActs ka kb kc mo ki am sk m d (i + 1) v9 dn9
def F_X5_doActs (ka : Int32) (kb : Int32) (kc : Int32) (v : S7) (mo : (Nat → Int32)) (ki : (Nat → Int32)) (am : (Nat → Int32)) (sk : (Nat → Bool)) (dn : (Nat → Bool)) (m : Int32) (n : Nat) : S7 × (Nat → Bool) :=
  Lp_X5_doActs ka kb kc mo ki am sk m n 0 v dn
def Lp_X5_goTo (ka : Int32) (kb : Int32) (kc : Int32) (mo : (Nat → Int32)) (ki : (Nat → Int32)) (am : (Nat → Int32)) (sk : (Nat → Bool)) (n : Nat) : Nat → Nat → S7 → (Nat → Bool) → S7 × (Nat → Bool)
  | 0, i, v9, dn9 => (v9, dn9)
  | d + 1, i, v9, dn9 => Lp_X5_goTo ka kb kc mo ki am sk n d (i + 1) (F_X5_closeMonth ka kb kc ((F_X5_doActs ka kb kc v9 mo ki am sk dn9 (nI i) n).1) (nI i)) ((F_X5_doActs ka kb kc v9 mo ki am sk dn9 (nI i) n).2)
def F_X5_goTo (ka : Int32) (kb : Int32) (kc : Int32) (mo : (Nat → Int32)) (ki : (Nat → Int32)) (am : (Nat → Int32)) (sk : (Nat → Bool)) (dn : (Nat → Bool)) (n : Nat) (mm : Nat) : S7 × (Nat → Bool) :=
  Lp_X5_goTo ka kb kc mo ki am sk n mm 0 F_X5_start dn
def F_X5_goNow (ka : Int32) (kb : Int32) (kc : Int32) (mo : (Nat → Int32)) (ki : (Nat → Int32)) (am : (Nat → Int32)) (sk : (Nat → Bool)) (dn : (Nat → Bool)) (np : Nat) (n : Nat) : S7 × (Nat → Bool) :=
  (((F_X5_doActs ka kb kc ((F_X5_goTo ka kb kc mo ki am sk dn n np).1) mo ki am sk ((F_X5_goTo ka kb kc mo ki am sk dn n np).2) (nI np) n).1), (F_X5_doActs ka kb kc ((F_X5_goTo ka kb kc mo ki am sk dn n np).1) mo ki am sk ((F_X5_goTo ka kb kc mo ki am sk dn n np).2) (nI np) n).2)
def F_X5_look (ka : Int32) (kb : Int32) (kc : Int32) (mo : (Nat → Int32)) (ki : (Nat → Int32)) (am : (Nat → Int32)) (sk : (Nat → Bool)) (dn : (Nat → Bool)) (np : Nat) (n : Nat) : S7 × Int32 × (Nat → Bool) :=
  (((F_X5_goNow ka kb kc mo ki am sk dn np n).1), 0, (F_X5_goNow ka kb kc mo ki am sk dn np n).2)
def F_X5_state (ka : Int32) (kb : Int32) (kc : Int32) (mo : (Nat → Int32)) (ki : (Nat → Int32)) (am : (Nat → Int32)) (sk : (Nat → Bool)) (dn : (Nat → Bool)) (np : Nat) (n : Nat) : Int32 × S7 × Int32 × (Nat → Bool) :=
  (((F_X5_look ka kb kc mo ki am sk dn np n).1).1, ((F_X5_look ka kb kc mo ki am sk dn np n).1), (F_X5_look ka kb kc mo ki am sk dn np n).2.1, (F_X5_look ka kb kc mo ki am sk dn np n).2.2)
def F_X5_account (ka : Int32) (kb : Int32) (kc : Int32) (mo : (Nat → Int32)) (ki : (Nat → Int32)) (am : (Nat → Int32)) (sk : (Nat → Bool)) (dn : (Nat → Bool)) (np : Nat) (n : Nat) : Int32 × S7 × Int32 × (Nat → Bool) :=
  (((F_X5_look ka kb kc mo ki am sk dn np n).1).2.1, ((F_X5_look ka kb kc mo ki am sk dn np n).1), (F_X5_look ka kb kc mo ki am sk dn np n).2.1, (F_X5_look ka kb kc mo ki am sk dn np n).2.2)
def F_X5_loan (ka : Int32) (kb : Int32) (kc : Int32) (mo : (Nat → Int32)) (ki : (Nat → Int32)) (am : (Nat → Int32)) (sk : (Nat → Bool)) (dn : (Nat → Bool)) (np : Nat) (n : Nat) : Int32 × S7 × Int32 × (Nat → Bool) :=
  (((F_X5_look ka kb kc mo ki am sk dn np n).1).2.2.1, ((F_X5_look ka kb kc mo ki am sk dn np n).1), (F_X5_look ka kb kc mo ki am sk dn np n).2.1, (F_X5_look ka kb kc mo ki am sk dn np n).2.2)
def F_X5_arrears (ka : Int32) (kb : Int32) (kc : Int32) (mo : (Nat → Int32)) (ki : (Nat → Int32)) (am : (Nat → Int32)) (sk : (Nat → Bool)) (dn : (Nat → Bool)) (np : Nat) (n : Nat) : Int32 × S7 × Int32 × (Nat → Bool) :=
  (((F_X5_look ka kb kc mo ki am sk dn np n).1).2.2.2.1, ((F_X5_look ka kb kc mo ki am sk dn np n).1), (F_X5_look ka kb kc mo ki am sk dn np n).2.1, (F_X5_look ka kb kc mo ki am sk dn np n).2.2)
def F_X5_paid (ka : Int32) (kb : Int32) (kc : Int32) (mo : (Nat → Int32)) (ki : (Nat → Int32)) (am : (Nat → Int32)) (sk : (Nat → Bool)) (dn : (Nat → Bool)) (np : Nat) (n : Nat) : Int32 × S7 × Int32 × (Nat → Bool) :=
  (((F_X5_look ka kb kc mo ki am sk dn np n).1).2.2.2.2.2.2, ((F_X5_look ka kb kc mo ki am sk dn np n).1), (F_X5_look ka kb kc mo ki am sk dn np n).2.1, (F_X5_look ka kb kc mo ki am sk dn np n).2.2)
def F_X5_deathSum (ka : Int32) (kb : Int32) (kc : Int32) (mo : (Nat → Int32)) (ki : (Nat → Int32)) (am : (Nat → Int32)) (sk : (Nat → Bool)) (dn : (Nat → Bool)) (np : Nat) (n : Nat) : Int32 × S7 × Int32 × (Nat → Bool) :=
  if ((F_X5_look ka kb kc mo ki am sk dn np n).1).1 ≤ 1 then ((F_X5_deathSumIn ka kb kc ((F_X5_look ka kb kc mo ki am sk dn np n).1) (nI np)).toInt32, ((F_X5_look ka kb kc mo ki am sk dn np n).1), (F_X5_look ka kb kc mo ki am sk dn np n).2.1, (F_X5_look ka kb kc mo ki am sk dn np n).2.2)
  else (0, ((F_X5_look ka kb kc mo ki am sk dn np n).1), (F_X5_look ka kb kc mo ki am sk dn np n).2.1, (F_X5_look ka kb kc mo ki am sk dn np n).2.2)
def F_X5_charge (ka : Int32) (kb : Int32) (kc : Int32) (mo : (Nat → Int32)) (ki : (Nat → Int32)) (am : (Nat → Int32)) (sk : (Nat → Bool)) (dn : (Nat → Bool)) (np : Nat) (n : Nat) : Int32 × S7 × Int32 × (Nat → Bool) :=
  if ((F_X5_look ka kb kc mo ki am sk dn np n).1).1 ≤ 1 then ((F_X5_chargeIn ka kb kc ((F_X5_look ka kb kc mo ki am sk dn np n).1) (nI np)), ((F_X5_look ka kb kc mo ki am sk dn np n).1), (F_X5_look ka kb kc mo ki am sk dn np n).2.1, (F_X5_look ka kb kc mo ki am sk dn np n).2.2)
  else (0, ((F_X5_look ka kb kc mo ki am sk dn np n).1), (F_X5_look ka kb kc mo ki am sk dn np n).2.1, (F_X5_look ka kb kc mo ki am sk dn np n).2.2)
def F_X5_grace (ka : Int32) (kb : Int32) (kc : Int32) (mo : (Nat → Int32)) (ki : (Nat → Int32)) (am : (Nat → Int32)) (sk : (Nat → Bool)) (dn : (Nat → Bool)) (np : Nat) (n : Nat) : Int32 × S7 × Int32 × (Nat → Bool) :=
  if ((F_X5_look ka kb kc mo ki am sk dn np n).1).1 = 1 then (((F_X5_look ka kb kc mo ki am sk dn np n).1).2.2.2.2.1, ((F_X5_look ka kb kc mo ki am sk dn np n).1), (F_X5_look ka kb kc mo ki am sk dn np n).2.1, (F_X5_look ka kb kc mo ki am sk dn np n).2.2)
  else (0, ((F_X5_look ka kb kc mo ki am sk dn np n).1), (F_X5_look ka kb kc mo ki am sk dn np n).2.1, (F_X5_look ka kb kc mo ki am sk dn np n).2.2)
theorem vp_n60 {n : Nat} (hn : n ≤ 60) (h : ¬ nI n = 60) : n + 1 ≤ 60 := by
  rcases Nat.lt_or_ge n 60 with q | q
  · omega
  · exact absurd (by rw [← nI_60, show n = 60 by omega]) h
theorem cl_of {x : Int32} (h : 0 ≤ x) : x = nI x.toNatClampNeg := by
  rw [Int32.le_iff_toInt_le] at h
  obtain ⟨j, hj, e⟩ := nI_of (x := x) (fun q => by
    rw [Int32.lt_iff_toInt_lt] at q
    omega)
  rw [e, nI_clamp hj]
theorem in5 {x y z : Int32} (h : ¬ bI (F_X5_in x y z) = 0) : y ≤ x ∧ x ≤ z := by
  rw [nbI0] at h
  unfold F_X5_in at h
  split at h
  · cases h
  · rename_i h1
    split at h
    · cases h
    · rename_i h2
      rw [Int32.lt_iff_toInt_lt] at h1 h2
      rw [Int32.le_iff_toInt_le, Int32.le_iff_toInt_le]
      omega
theorem cl_le {x : Int32} {b : Nat} (hb : b < 2 ^ 31) (h0 : 0 ≤ x) (h : x ≤ nI b) : x.toNatClampNeg ≤ b := by
  obtain ⟨j, hj, e⟩ := nI_of (x := x) (fun q => by
    rw [Int32.le_iff_toInt_le] at h0
    rw [Int32.lt_iff_toInt_lt] at q
    omega)
  rw [e] at h ⊢
  rw [nI_clamp hj]
  rcases Nat.lt_or_ge b j with q | q
  · exact absurd h (nI_ge q hj)
  · exact q
theorem act_in {x : Int32} {n : Nat} (hn : n ≤ 60) (h : ¬ bI (F_X5_in x 0 (nI n - 1)) = 0) : vp_in x 60 := by
  obtain ⟨h1, h2⟩ := in5 h
  rw [vp_in_iff]
  rw [Int32.le_iff_toInt_le] at h1 h2
  have e0 : (0 : Int32).toInt = 0 := by decide
  cases n with
  | zero =>
    have e1 : (nI 0 - 1 : Int32).toInt = -1 := by decide +kernel
    omega
  | succ n =>
    rw [nI_pred, nI_toInt (by omega)] at h2
    omega
def F_X5_tell (ka : Int32) (kb : Int32) (kc : Int32) (v : S7) (mo : (Nat → Int32)) (ki : (Nat → Int32)) (am : (Nat → Int32)) (sk : (Nat → Bool)) (dn : (Nat → Bool)) (m : Int32) (a : Int32) (x : Int32) (np : Nat) (n : Nat) : Bool × Int32 × S7 × Int32 × (Nat → Int32) × (Nat → Int32) × (Nat → Int32) × (Nat → Bool) × (Nat → Bool) :=
  if bI (F_X5_in m 0 (nI np)) = 0 then (false, nI n, v, 1, mo, ki, am, sk, dn)
  else (if bI (F_X5_in a 0 5) = 0 then (false, nI n, v, 1, mo, ki, am, sk, dn)
    else (if bI (F_X5_in x 1 2000000) = 0 then (false, nI n, v, 1, mo, ki, am, sk, dn)
      else (if nI n = 60 then (false, nI n, v, 2, mo, ki, am, sk, dn)
        else ((((F_X5_goNow ka kb kc (upd mo (nI n).toNatClampNeg m) (upd ki (nI n).toNatClampNeg a) (upd am (nI n).toNatClampNeg x) (updB sk (nI n).toNatClampNeg false) dn np (n + 1)).2) (nI (n + 1) - 1).toNatClampNeg), nI (n + 1), ((F_X5_goNow ka kb kc (upd mo (nI n).toNatClampNeg m) (upd ki (nI n).toNatClampNeg a) (upd am (nI n).toNatClampNeg x) (updB sk (nI n).toNatClampNeg false) dn np (n + 1)).1), 0, (upd mo (nI n).toNatClampNeg m), (upd ki (nI n).toNatClampNeg a), (upd am (nI n).toNatClampNeg x), (updB sk (nI n).toNatClampNeg false), (F_X5_goNow ka kb kc (upd mo (nI n).toNatClampNeg m) (upd ki (nI n).toNatClampNeg a) (upd am (nI n).toNatClampNeg x) (updB sk (nI n).toNatClampNeg false) dn np (n + 1)).2))))
def F_X5_isAct (sk : (Nat → Bool)) (x : Int32) (n : Nat) : Bool × Int32 :=
  if bI (F_X5_in x 0 (nI n - 1)) = 0 then (false, 1)
  else (if bI (sk x.toNatClampNeg) = 0 then (true, 0)
    else (false, 1))
theorem isAct_in {x : Int32} {n : Nat} {sk : Nat → Bool} (hn : n ≤ 60) (h : ¬ bI (F_X5_isAct sk x n).1 = 0) : vp_in x 60 := by
  by_cases q : bI (F_X5_in x 0 (nI n - 1)) = 0
  · exfalso
    apply h
    unfold F_X5_isAct
    rw [if_pos q]
    first | rfl | decide
  · exact act_in hn q
def F_X5_strike (mo : (Nat → Int32)) (sk : (Nat → Bool)) (x : Int32) (n : Nat) : Int32 × Int32 × (Nat → Bool) :=
  if bI ((F_X5_isAct sk x n).1) = 0 then (0, (F_X5_isAct sk x n).2, sk)
  else ((mo x.toNatClampNeg), (F_X5_isAct sk x n).2, (updB sk x.toNatClampNeg true))
def F_X5_isDone (ka : Int32) (kb : Int32) (kc : Int32) (v : S7) (mo : (Nat → Int32)) (ki : (Nat → Int32)) (am : (Nat → Int32)) (sk : (Nat → Bool)) (dn : (Nat → Bool)) (x : Int32) (np : Nat) (n : Nat) : Bool × S7 × Int32 × (Nat → Bool) :=
  if bI ((F_X5_isAct sk x n).1) = 0 then (false, v, (F_X5_isAct sk x n).2, dn)
  else ((((F_X5_goNow ka kb kc mo ki am sk dn np n).2) x.toNatClampNeg), ((F_X5_goNow ka kb kc mo ki am sk dn np n).1), (F_X5_isAct sk x n).2, (F_X5_goNow ka kb kc mo ki am sk dn np n).2)
def F_X5_isMonth (ka : Int32) (kb : Int32) (kc : Int32) (v : S7) (mo : (Nat → Int32)) (ki : (Nat → Int32)) (am : (Nat → Int32)) (sk : (Nat → Bool)) (dn : (Nat → Bool)) (x : Int32) (np : Nat) (n : Nat) : Bool × S7 × Int32 × (Nat → Bool) :=
  if bI (F_X5_in x 0 (nI np)) = 0 then (false, v, 1, dn)
  else (true, ((F_X5_goTo ka kb kc mo ki am sk dn n x.toNatClampNeg).1), 0, (F_X5_goTo ka kb kc mo ki am sk dn n x.toNatClampNeg).2)
def F_X5_accountAt (ka : Int32) (kb : Int32) (kc : Int32) (v : S7) (mo : (Nat → Int32)) (ki : (Nat → Int32)) (am : (Nat → Int32)) (sk : (Nat → Bool)) (dn : (Nat → Bool)) (x : Int32) (np : Nat) (n : Nat) : Int32 × S7 × Int32 × (Nat → Bool) :=
  if bI ((F_X5_isMonth ka kb kc v mo ki am sk dn x np n).1) = 0 then (0, ((F_X5_isMonth ka kb kc v mo ki am sk dn x np n).2.1), (F_X5_isMonth ka kb kc v mo ki am sk dn x np n).2.2.1, (F_X5_isMonth ka kb kc v mo ki am sk dn x np n).2.2.2)
  else (((F_X5_isMonth ka kb kc v mo ki am sk dn x np n).2.1).2.1, ((F_X5_isMonth ka kb kc v mo ki am sk dn x np n).2.1), (F_X5_isMonth ka kb kc v mo ki am sk dn x np n).2.2.1, (F_X5_isMonth ka kb kc v mo ki am sk dn x np n).2.2.2)
def F_X5_accountFromStart (ka : Int32) (kb : Int32) (kc : Int32) (v : S7) (mo : (Nat → Int32)) (ki : (Nat → Int32)) (am : (Nat → Int32)) (sk : (Nat → Bool)) (dn : (Nat → Bool)) (x : Int32) (np : Nat) (n : Nat) : Int32 × S7 × Int32 × (Nat → Bool) :=
  if bI ((F_X5_isMonth ka kb kc v mo ki am sk dn x np n).1) = 0 then (0, ((F_X5_isMonth ka kb kc v mo ki am sk dn x np n).2.1), (F_X5_isMonth ka kb kc v mo ki am sk dn x np n).2.2.1, (F_X5_isMonth ka kb kc v mo ki am sk dn x np n).2.2.2)
  else (((F_X5_isMonth ka kb kc v mo ki am sk dn x np n).2.1).2.1, ((F_X5_isMonth ka kb kc v mo ki am sk dn x np n).2.1), (F_X5_isMonth ka kb kc v mo ki am sk dn x np n).2.2.1, (F_X5_isMonth ka kb kc v mo ki am sk dn x np n).2.2.2)
def F_X5_stateAt (ka : Int32) (kb : Int32) (kc : Int32) (v : S7) (mo : (Nat → Int32)) (ki : (Nat → Int32)) (am : (Nat → Int32)) (sk : (Nat → Bool)) (dn : (Nat → Bool)) (x : Int32) (np : Nat) (n : Nat) : Int32 × S7 × Int32 × (Nat → Bool) :=
  if bI ((F_X5_isMonth ka kb kc v mo ki am sk dn x np n).1) = 0 then (0, ((F_X5_isMonth ka kb kc v mo ki am sk dn x np n).2.1), (F_X5_isMonth ka kb kc v mo ki am sk dn x np n).2.2.1, (F_X5_isMonth ka kb kc v mo ki am sk dn x np n).2.2.2)
  else (((F_X5_isMonth ka kb kc v mo ki am sk dn x np n).2.1).1, ((F_X5_isMonth ka kb kc v mo ki am sk dn x np n).2.1), (F_X5_isMonth ka kb kc v mo ki am sk dn x np n).2.2.1, (F_X5_isMonth ka kb kc v mo ki am sk dn x np n).2.2.2)
theorem nI_01 : nI (0 + 1) = 1 := by decide +kernel
def Lp_X5_lapse (ka : Int32) (kb : Int32) (kc : Int32) (np : Nat) : Nat → Nat → S7 → (Nat → Bool) → Int32 × S7 × (Nat → Bool)
  | 0, i, v9, dn9 => ((-1), v9, dn9)
  | d + 1, i, v9, dn9 => if (F_X5_closeMonth ka kb kc v9 ((nI np + nI (i + 1)) - 1)).1 = 2 then ((nI np + nI (i + 1)), (F_X5_closeMonth ka kb kc v9 ((nI np + nI (i + 1)) - 1)), dn9)
  else Lp_X5_lapse ka kb kc np d (i + 1) (F_X5_closeMonth ka kb kc v9 ((nI np + nI (i + 1)) - 1)) dn9
def F_X5_lapse (ka : Int32) (kb : Int32) (kc : Int32) (mo : (Nat → Int32)) (ki : (Nat → Int32)) (am : (Nat → Int32)) (sk : (Nat → Bool)) (dn : (Nat → Bool)) (x : Int32) (np : Nat) (n : Nat) (w : Nat) : Int32 × S7 × (Nat → Bool) :=
  if x ≤ 0 then Lp_X5_lapse ka kb kc np w 0 ((F_X5_goNow ka kb kc mo ki am sk dn np n).1) ((F_X5_goNow ka kb kc mo ki am sk dn np n).2)
  else Lp_X5_lapse ka kb kc np w 0 ((F_X5_premium ((F_X5_goNow ka kb kc mo ki am sk dn np n).1) x).2) ((F_X5_goNow ka kb kc mo ki am sk dn np n).2)
theorem nI_36 : nI 36 = 36 := by decide +kernel
theorem nI_120' : (120 : Int32) = nI 120 := by decide +kernel
theorem in5_le {x : Int32} {b : Nat} {B : Int32} (hb : b < 2 ^ 31) (hB : B = nI b) (h : ¬ bI (F_X5_in x 1 B) = 0) : x = nI x.toNatClampNeg ∧ x.toNatClampNeg ≤ b ∧ 1 ≤ x.toNatClampNeg := by
  obtain ⟨h1, h2⟩ := in5 h
  rw [hB] at h2
  have h0 : 0 ≤ x := by
    rw [Int32.le_iff_toInt_le] at h1 ⊢
    have e0 : (0 : Int32).toInt = 0 := by decide
    have e1 : (1 : Int32).toInt = 1 := by decide
    omega
  have e := cl_of h0
  refine ⟨e, cl_le hb h0 h2, ?_⟩
  have hle := cl_le hb h0 h2
  rw [e, Int32.le_iff_toInt_le, nI_toInt (by omega)] at h1
  have e1 : (1 : Int32).toInt = 1 := by decide
  omega
theorem nI_mid {a b : Nat} (ha : a ≤ 2000000) (hb : b ≤ 2000000) : (nI a + nI b) / 2 = nI ((a + b) / 2) := by
  rw [nI_add]
  exact pk_div (a := a + b) (d := 2) (by omega) (by omega) (by omega)
theorem nI_2m : (2000000 : Int32) = nI 2000000 := by decide +kernel
def F_X5_wouldLapse (ka : Int32) (kb : Int32) (kc : Int32) (v : S7) (mo : (Nat → Int32)) (ki : (Nat → Int32)) (am : (Nat → Int32)) (sk : (Nat → Bool)) (dn : (Nat → Bool)) (x : Int32) (np : Nat) (n : Nat) : Int32 × S7 × Int32 × (Nat → Bool) :=
  if bI (F_X5_in x 1 120) = 0 then (0, v, 1, dn)
  else (if ((F_X5_goNow ka kb kc mo ki am sk dn np n).1).1 ≤ 1 then ((F_X5_lapse ka kb kc mo ki am sk ((F_X5_goNow ka kb kc mo ki am sk dn np n).2) 0 np n x.toNatClampNeg).1, ((F_X5_lapse ka kb kc mo ki am sk ((F_X5_goNow ka kb kc mo ki am sk dn np n).2) 0 np n x.toNatClampNeg).2.1), 0, (F_X5_lapse ka kb kc mo ki am sk ((F_X5_goNow ka kb kc mo ki am sk dn np n).2) 0 np n x.toNatClampNeg).2.2)
    else ((-1), ((F_X5_goNow ka kb kc mo ki am sk dn np n).1), 0, (F_X5_goNow ka kb kc mo ki am sk dn np n).2))
theorem lt_of_nle {a b : Nat} (ha : a < 2 ^ 31) (h : ¬ nI b ≤ nI a) : a < b := by
  rcases Nat.lt_or_ge a b with q | q
  · exact q
  · exact absurd (nI_le q ha) h
def Lp_X5_needed (ka : Int32) (kb : Int32) (kc : Int32) (mo : (Nat → Int32)) (ki : (Nat → Int32)) (am : (Nat → Int32)) (sk : (Nat → Bool)) (x : Int32) (np : Nat) (n : Nat) : Nat → Nat → Nat → Nat → S7 → (Nat → Bool) → Int32 × S7 × Int32 × (Nat → Bool)
  | 0, i, lo9, hi9, v9, dn9 => (nI hi9, v9, 0, dn9)
  | d + 1, i, lo9, hi9, v9, dn9 => if nI hi9 ≤ nI lo9 then (nI hi9, v9, 0, dn9)
  else (if (F_X5_lapse ka kb kc mo ki am sk dn9 (nI ((lo9 + hi9) / 2)) np n x.toNatClampNeg).1 = (-1) then Lp_X5_needed ka kb kc mo ki am sk x np n d (i + 1) lo9 ((lo9 + hi9) / 2) ((F_X5_lapse ka kb kc mo ki am sk dn9 (nI ((lo9 + hi9) / 2)) np n x.toNatClampNeg).2.1) ((F_X5_lapse ka kb kc mo ki am sk dn9 (nI ((lo9 + hi9) / 2)) np n x.toNatClampNeg).2.2)
    else Lp_X5_needed ka kb kc mo ki am sk x np n d (i + 1) (((lo9 + hi9) / 2) + 1) hi9 ((F_X5_lapse ka kb kc mo ki am sk dn9 (nI ((lo9 + hi9) / 2)) np n x.toNatClampNeg).2.1) ((F_X5_lapse ka kb kc mo ki am sk dn9 (nI ((lo9 + hi9) / 2)) np n x.toNatClampNeg).2.2))
def F_X5_needed (ka : Int32) (kb : Int32) (kc : Int32) (v : S7) (mo : (Nat → Int32)) (ki : (Nat → Int32)) (am : (Nat → Int32)) (sk : (Nat → Bool)) (dn : (Nat → Bool)) (x : Int32) (np : Nat) (n : Nat) : Int32 × S7 × Int32 × (Nat → Bool) :=
  if bI (F_X5_in x 1 36) = 0 then (0, v, 1, dn)
  else (if 1 < ((F_X5_goNow ka kb kc mo ki am sk dn np n).1).1 then ((-1), ((F_X5_goNow ka kb kc mo ki am sk dn np n).1), 0, (F_X5_goNow ka kb kc mo ki am sk dn np n).2)
    else (if (F_X5_lapse ka kb kc mo ki am sk ((F_X5_goNow ka kb kc mo ki am sk dn np n).2) 2000000 np n x.toNatClampNeg).1 = (-1) then Lp_X5_needed ka kb kc mo ki am sk x np n 21 0 0 2000000 ((F_X5_lapse ka kb kc mo ki am sk ((F_X5_goNow ka kb kc mo ki am sk dn np n).2) 2000000 np n x.toNatClampNeg).2.1) ((F_X5_lapse ka kb kc mo ki am sk ((F_X5_goNow ka kb kc mo ki am sk dn np n).2) 2000000 np n x.toNatClampNeg).2.2)
      else ((-1), ((F_X5_lapse ka kb kc mo ki am sk ((F_X5_goNow ka kb kc mo ki am sk dn np n).2) 2000000 np n x.toNatClampNeg).2.1), 0, (F_X5_lapse ka kb kc mo ki am sk ((F_X5_goNow ka kb kc mo ki am sk dn np n).2) 2000000 np n x.toNatClampNeg).2.2)))
end MODEL
