/-! THE COMMON WORDS: nine rows (0 tires, 1 strengthens, 2 hours, 3 gifts, 4 left of tired, 5 left of strength, 6 the plan, 7 counting days, 8 weights), as the class holds them, as the reference does -/
abbrev k_V : Type := Nat → Nat → Int32
def vC (S : k_S) : k_V
  | 0 => S.2.1 17
  | 1 => S.2.1 18
  | 2 => S.2.1 19
  | 3 => S.2.1 21
  | 4 => S.2.1 22
  | 5 => S.2.1 23
  | 6 => S.2.1 25
  | 7 => S.2.1 27
  | _ => S.2.1 28
/-- the work of a day, the day that counts, as naturals -/
def pw (V : k_V) (d : Nat) : Nat := ix (V 6 d)
def cN (V : k_V) (c : Nat) : Nat := ix (V 7 c)
def PlanOk (V : k_V) : Prop := ∀ d, d < 120 → V 6 d = nI (pw V d) ∧ pw V d < 6
def CntOk (V : k_V) (dn : Nat) : Prop := dn ≤ 4 ∧ ∀ c, c < dn → V 7 c = nI (cN V c) ∧ cN V c < 120
theorem PlanOk.at {V : k_V} (h : PlanOk V) {d : Nat} (hd : d < 120) : V 6 d = nI (pw V d) := (h d hd).1
theorem PlanOk.lt {V : k_V} (h : PlanOk V) {d : Nat} (hd : d < 120) : pw V d < 6 := (h d hd).2
def str (V : k_V) (r w k : Nat) : Int32 := V 1 w * V 3 r / nI 1000 * V 5 (r * 120 + k)
def tir (V : k_V) (r w k : Nat) : Int32 := V 0 w * V 4 (r * 120 + k)
def pts (V : k_V) (r w k : Nat) : Int32 := str V r w k - tir V r w k
def sSum (V : k_V) (r day : Nat) : Nat → Int32 := sumN (fun d => if pw V d = 0 then nI 0 else str V r (pw V d) (day - d))
def tSum (V : k_V) (r day : Nat) : Nat → Int32 := sumN (fun d => if pw V d = 0 then nI 0 else tir V r (pw V d) (day - d))
def fitv (V : k_V) (r day : Nat) : Int32 := sSum V r day (day + 1) - tSum V r day (day + 1)
def wor (V : k_V) (dn r w d : Nat) : Int32 := sumN (fun c => if d ≤ cN V c then V 8 c * pts V r w (cN V c - d) else nI 0) dn
def gai (V : k_V) (dn r : Nat) : Nat → Int32 := sumN (fun d => wor V dn r (pw V d) d)
theorem sumN_s (f : Nat → Int32) (n : Nat) : sumN f (n + 1) = sumN f n + f n := rfl
theorem addz (x : Int32) : x + nI 0 = x := Int32.add_zero x
theorem vpl {S : k_S} {V : k_V} (hV : vC S = V) (hpl : PlanOk V) {d : Nat} (hd : d < 120) : S.2.1 25 d = nI (pw V d) := (congrFun (congrFun hV 6) d).trans (hpl.at hd)
theorem vcd {S : k_S} {V : k_V} {dn : Nat} (hV : vC S = V) (h : CntOk V dn) {c : Nat} (hc : c < dn) : S.2.1 27 c = nI (cN V c) := (congrFun (congrFun hV 7) c).trans (h.2 c hc).1
theorem sub_nneg {a b : Nat} (ha : a < 2 ^ 30) (hb : b < 2 ^ 30) : (nI a - nI b < 0) ↔ a < b := by
  rw [Int32.lt_iff_toInt_lt, pk_sub_toInt ha hb, show (0 : Int32).toInt = 0 from by decide]; omega
theorem sub_nneg' {a b : Nat} (ha : a < 2 ^ 30) (hb : b < 2 ^ 30) : (0 ≤ nI a - nI b) ↔ b ≤ a := by
  rw [Int32.le_iff_toInt_le, pk_sub_toInt ha hb, show (0 : Int32).toInt = 0 from by decide]; omega
