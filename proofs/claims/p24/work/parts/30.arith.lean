section ARITH
theorem b32 {a : Int} (h1 : -2147483648 ≤ a) (h2 : a < 2147483648) : a.bmod (2 ^ 32) = a := Int.bmod_eq_of_le (by omega) (by omega)
theorem b64 {a : Int} (h1 : -9223372036854775808 ≤ a) (h2 : a < 9223372036854775808) : a.bmod (2 ^ 64) = a := Int.bmod_eq_of_le (by omega) (by omega)
theorem a32 {x y : Int32} {a b : Int} (hx : x.toInt = a) (hy : y.toInt = b) (h1 : -2147483648 ≤ a + b) (h2 : a + b < 2147483648) : (x + y).toInt = a + b := by
  rw [Int32.toInt_add, hx, hy, b32 h1 h2]
theorem s32 {x y : Int32} {a b : Int} (hx : x.toInt = a) (hy : y.toInt = b) (h1 : -2147483648 ≤ a - b) (h2 : a - b < 2147483648) : (x - y).toInt = a - b := by
  rw [Int32.toInt_sub, hx, hy, b32 h1 h2]
theorem m32 {x y : Int32} {a b : Int} (hx : x.toInt = a) (hy : y.toInt = b) (h1 : -2147483648 ≤ a * b) (h2 : a * b < 2147483648) : (x * y).toInt = a * b := by
  rw [Int32.toInt_mul, hx, hy, b32 h1 h2]
theorem d32 {x y : Int32} {a b : Int} (hx : x.toInt = a) (hy : y.toInt = b) (h0 : 0 ≤ a) (hb : 0 < b) : (x / y).toInt = a / b := by
  have h1 := Int32.toInt_lt x
  have h3 : a / b ≤ a := Int.ediv_le_self b h0
  have h4 : 0 ≤ a / b := Int.ediv_nonneg h0 (by omega)
  rw [Int32.toInt_div, hx, hy, Int.tdiv_eq_ediv_of_nonneg h0, b32 (by omega) (by omega)]
theorem a64 {x y : Int64} {a b : Int} (hx : x.toInt = a) (hy : y.toInt = b) (h1 : -9223372036854775808 ≤ a + b) (h2 : a + b < 9223372036854775808) : (x + y).toInt = a + b := by
  rw [Int64.toInt_add, hx, hy, b64 h1 h2]
theorem s64 {x y : Int64} {a b : Int} (hx : x.toInt = a) (hy : y.toInt = b) (h1 : -9223372036854775808 ≤ a - b) (h2 : a - b < 9223372036854775808) : (x - y).toInt = a - b := by
  rw [Int64.toInt_sub, hx, hy, b64 h1 h2]
theorem m64 {x y : Int64} {a b : Int} (hx : x.toInt = a) (hy : y.toInt = b) (h1 : -9223372036854775808 ≤ a * b) (h2 : a * b < 9223372036854775808) : (x * y).toInt = a * b := by
  rw [Int64.toInt_mul, hx, hy, b64 h1 h2]
theorem d64 {x y : Int64} {a b : Int} (hx : x.toInt = a) (hy : y.toInt = b) (h0 : 0 ≤ a) (hb : 0 < b) : (x / y).toInt = a / b := by
  have h1 := Int64.toInt_lt x
  have h3 : a / b ≤ a := Int.ediv_le_self b h0
  have h4 : 0 ≤ a / b := Int.ediv_nonneg h0 (by omega)
  rw [Int64.toInt_div, hx, hy, Int.tdiv_eq_ediv_of_nonneg h0, b64 (by omega) (by omega)]
theorem w64 {x : Int32} {a : Int} (hx : x.toInt = a) : x.toInt64.toInt = a := by rw [Int32.toInt_toInt64, hx]
theorem n32 {x : Int64} {a : Int} (hx : x.toInt = a) (h1 : -2147483648 ≤ a) (h2 : a < 2147483648) : x.toInt32.toInt = a := by
  rw [Int64.toInt_toInt32, hx, b32 h1 h2]
theorem lt32 {x y : Int32} {a b : Int} (hx : x.toInt = a) (hy : y.toInt = b) : x < y ↔ a < b := by rw [Int32.lt_iff_toInt_lt, hx, hy]
theorem le32 {x y : Int32} {a b : Int} (hx : x.toInt = a) (hy : y.toInt = b) : x ≤ y ↔ a ≤ b := by rw [Int32.le_iff_toInt_le, hx, hy]
theorem eq32 {x y : Int32} {a b : Int} (hx : x.toInt = a) (hy : y.toInt = b) : x = y ↔ a = b := by rw [← Int32.toInt_inj, hx, hy]
theorem lt64 {x y : Int64} {a b : Int} (hx : x.toInt = a) (hy : y.toInt = b) : x < y ↔ a < b := by rw [Int64.lt_iff_toInt_lt, hx, hy]
theorem i_ite {c : Prop} [d : Decidable c] {x y : Int32} {P : Prop} {a b : Int} (hc : c ↔ P) [dP : Decidable P] (hx : P → x.toInt = a) (hy : ¬ P → y.toInt = b) : (if c then x else y).toInt = if P then a else b := by
  by_cases h : P
  · rw [if_pos (hc.mpr h), if_pos h, hx h]
  · rw [if_neg (fun q => h (hc.mp q)), if_neg h, hy h]
theorem l_ite {c : Prop} [d : Decidable c] {x y : Int64} {P : Prop} {a b : Int} (hc : c ↔ P) [dP : Decidable P] (hx : P → x.toInt = a) (hy : ¬ P → y.toInt = b) : (if c then x else y).toInt = if P then a else b := by
  by_cases h : P
  · rw [if_pos (hc.mpr h), if_pos h, hx h]
  · rw [if_neg (fun q => h (hc.mp q)), if_neg h, hy h]
theorem lcmp_ge {x y : Int64} {a b : Int} (hx : x.toInt = a) (hy : y.toInt = b) : 0 ≤ lg_cmp x y ↔ b ≤ a := by
  unfold lg_cmp
  by_cases h1 : y < x
  · rw [if_pos h1]
    rw [lt64 hy hx] at h1
    constructor
    · intro _; omega
    · intro _; decide
  · rw [if_neg h1]
    by_cases h2 : x = y
    · rw [if_pos h2]
      subst h2
      constructor
      · intro _; omega
      · intro _; decide
    · rw [if_neg h2]
      rw [lt64 hy hx] at h1
      have h3 : ¬ a = b := fun q => h2 (by rw [← Int64.toInt_inj, hx, hy, q])
      constructor
      · intro q; exact absurd q (by decide)
      · intro q; omega
theorem lcmp_self (x : Int64) : lg_cmp x x = 0 := by
  unfold lg_cmp
  rw [if_neg (fun h : x < x => by rw [Int64.lt_iff_toInt_lt] at h; omega), if_pos rfl]
-- the numbers that stand in the code
theorem k0 : (0 : Int32).toInt = 0 := by decide
theorem k1 : (1 : Int32).toInt = 1 := by decide
theorem k2 : (2 : Int32).toInt = 2 := by decide
theorem k3 : (3 : Int32).toInt = 3 := by decide
theorem k4 : (4 : Int32).toInt = 4 := by decide
theorem k5 : (5 : Int32).toInt = 5 := by decide
theorem k10 : (10 : Int32).toInt = 10 := by decide
theorem k12 : (12 : Int32).toInt = 12 := by decide
theorem k24 : (24 : Int32).toInt = 24 := by decide
theorem k30 : (30 : Int32).toInt = 30 := by decide
theorem k40 : (40 : Int32).toInt = 40 := by decide
theorem k69 : (69 : Int32).toInt = 69 := by decide
theorem k105 : (105 : Int32).toInt = 105 := by decide
theorem k250 : (250 : Int32).toInt = 250 := by decide
theorem k500 : (500 : Int32).toInt = 500 := by decide
theorem km1 : (-1 : Int32).toInt = -1 := by decide
theorem l0 : (0 : Int64).toInt = 0 := by decide
theorem l2 : (2 : Int64).toInt = 2 := by decide
theorem l3 : (3 : Int64).toInt = 3 := by decide
theorem l4 : (4 : Int64).toInt = 4 := by decide
theorem l5 : (5 : Int64).toInt = 5 := by decide
theorem l100 : (100 : Int64).toInt = 100 := by decide
theorem l500 : (500 : Int64).toInt = 500 := by decide
theorem l1200 : (1200 : Int64).toInt = 1200 := by decide
theorem l100k : (100000 : Int64).toInt = 100000 := by decide +kernel
theorem l1m : (1000000 : Int64).toInt = 1000000 := by decide +kernel
-- what the document's words say, in whole numbers
def zcor (g : Int) : Int := if g ≤ 40 then 250 else if 69 ≤ g then 105 else 250 - 5 * (g - 40)
def zrate (g : Int) : Int := if g ≤ 30 then 10 else 10 + 2 * (g - 30)
def zds (s k g a : Int) : Int := if a * zcor g / 100 < (if k = 1 then s + a else s) then (if k = 1 then s + a else s) else a * zcor g / 100
def zch (s k g a : Int) : Int := 500 + (zds s k g a - a) * zrate g / 100000
def zfree (a n : Int) : Int := if a ≤ n then 0 else a - n
def zint (a n : Int) : Int := if a ≤ n then 2 * a / 1200 else if a - n ≤ 1000000 then (2 * n + 3 * (a - n)) / 1200 else (2 * n + 3000000 + 4 * (a - n - 1000000)) / 1200
theorem v_corridorFor {x : Int32} {g : Int} (hx : x.toInt = g) (h0 : 0 ≤ g) (h1 : g ≤ 200) : (F_X2_corridorFor x).toInt = zcor g := by
  unfold F_X2_corridorFor zcor
  by_cases c1 : 40 < g
  · rw [if_pos ((lt32 k40 hx).mpr c1), if_neg (show ¬ g ≤ 40 by omega)]
    by_cases c2 : g < 69
    · rw [if_pos ((lt32 hx k69).mpr c2), if_neg (show ¬ 69 ≤ g by omega)]
      exact s32 k250 (m32 k5 (s32 hx k40 (by omega) (by omega)) (by omega) (by omega)) (by omega) (by omega)
    · rw [if_neg (fun q => c2 ((lt32 hx k69).mp q)), if_pos (show 69 ≤ g by omega)]
      exact k105
  · rw [if_neg (fun q => c1 ((lt32 k40 hx).mp q)), if_pos (show g ≤ 40 by omega)]
    exact k250
theorem v_corridorAt {x : Int32} {g : Int} (hx : x.toInt = g) (h0 : 0 ≤ g) (h1 : g ≤ 200) : (F_X5_corridorAt x).toInt = zcor g := by
  unfold F_X5_corridorAt zcor
  by_cases c1 : 40 < g
  · rw [if_pos ((lt32 k40 hx).mpr c1), if_neg (show ¬ g ≤ 40 by omega)]
    have e : (250 - (5 * (x - 40)) : Int32).toInt = 250 - 5 * (g - 40) := s32 k250 (m32 k5 (s32 hx k40 (by omega) (by omega)) (by omega) (by omega)) (by omega) (by omega)
    by_cases c2 : g < 69
    · rw [if_pos ((le32 k105 e).mpr (by omega)), if_neg (show ¬ 69 ≤ g by omega)]
      exact e
    · by_cases c3 : g = 69
      · rw [if_pos ((le32 k105 e).mpr (by omega)), if_pos (show 69 ≤ g by omega), e, c3]
        rfl
      · rw [if_neg (fun q => by have := (le32 k105 e).mp q; omega), if_pos (show 69 ≤ g by omega)]
        exact k105
  · rw [if_neg (fun q => c1 ((lt32 k40 hx).mp q)), if_pos (show g ≤ 40 by omega)]
    exact k250
end ARITH
