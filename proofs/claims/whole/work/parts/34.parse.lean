-- the pure reader of texts, against which both readers are held
/-- the reader: its token, how deep, how many turned, steps laid, numbers and names said, the row of steps -/
abbrev PS : Type := Tok × Nat × Nat × Nat × Nat × (Nat → Int32)
def psNx (T : Nat → Int32) (n : Nat) (p : PS) : PS := (tokF T n p.1, p.2)
def psSt (at0 : Nat) (a b : Int32) (p : PS) : PS := (p.1, p.2.1, p.2.2.1, p.2.2.2.1 + 1, p.2.2.2.2.1, upd (upd p.2.2.2.2.2 (at0 + 2 * p.2.2.2.1) a) (at0 + 2 * p.2.2.2.1 + 1) b)
def psSa (p : PS) : PS := (p.1, p.2.1, p.2.2.1, p.2.2.2.1, p.2.2.2.2.1 + 1, p.2.2.2.2.2)
def psDp (d : Nat) (p : PS) : PS := (p.1, d, p.2.2)
def psTn (d : Nat) (p : PS) : PS := (p.1, p.2.1, d, p.2.2.2)
abbrev psSg (x : Int32) (p : PS) : Prop := p.1.2.2.1 = 3 ∧ p.1.2.2.2.2 = x
/-- the signs of one level, from the left on -/
def psLp (T : Nat → Int32) (n at0 : Nat) (op : PS → Bool) (sub : PS → Bool × PS) : Nat → PS → Bool × PS
  | 0, p => (false, p)
  | f + 1, p => if op p = true then (if (sub (psNx T n p)).1 = true then psLp T n at0 op sub f (psSt at0 2 p.1.2.2.2.2 (sub (psNx T n p)).2) else (false, (sub (psNx T n p)).2)) else (true, p)
def psBi (T : Nat → Int32) (n at0 : Nat) (op : PS → Bool) (sub : PS → Bool × PS) (p : PS) : Bool × PS :=
  if (sub p).1 = true then psLp T n at0 op sub 97 (sub p).2 else (false, (sub p).2)
def psTe (T : Nat → Int32) (n at0 : Nat) (op : PS → Bool) (sub : PS → Bool × PS) (p : PS) : Bool × PS :=
  if (sub p).1 = true then (if op (sub p).2 = true then (if (sub (psNx T n (sub p).2)).1 = true then (true, psSt at0 2 (sub p).2.1.2.2.2.2 (sub (psNx T n (sub p).2)).2) else (false, (sub (psNx T n (sub p).2)).2)) else (true, (sub p).2)) else (false, (sub p).2)
def opOr (p : PS) : Bool := decide (psSg 124 p)
def opAn (p : PS) : Bool := decide (psSg 38 p)
def opCm (p : PS) : Bool := decide (psSg 60 p ∨ psSg 61 p ∨ psSg 62 p)
def opSu (p : PS) : Bool := decide (psSg 43 p ∨ psSg 45 p)
def opTe (p : PS) : Bool := decide (psSg 42 p ∨ psSg 47 p)
def psEi (T : Nat → Int32) (n at0 : Nat) (part : PS → Bool × PS) : PS → Bool × PS :=
  psBi T n at0 opOr (psBi T n at0 opAn (psTe T n at0 opCm (psBi T n at0 opSu (psBi T n at0 opTe part))))
/-- a part: a number, a name, '!' and a part, or a text in brackets -/
def psPt (T : Nat → Int32) (n at0 : Nat) (kd : Int32) : Nat → PS → Bool × PS
  | 0, p => (false, p)
  | f + 1, p =>
    if p.1.2.2.1 = 2 then (true, psNx T n (psSa (psSt at0 0 p.1.2.2.2.1 p)))
    else if p.1.2.2.1 = 1 ∧ ¬ p.1.2.2.2.2 = 0 ∧ nmP kd p.1.2.2.2.2 then (true, psNx T n (psSa (psSt at0 1 p.1.2.2.2.2 p)))
    else if psSg 33 p ∧ p.2.2.1 < 8 then
      (if (psPt T n at0 kd f (psNx T n (psTn (p.2.2.1 + 1) p))).1 = true then (true, psSt at0 2 33 (psTn ((psPt T n at0 kd f (psNx T n (psTn (p.2.2.1 + 1) p))).2.2.2.1 - 1) (psPt T n at0 kd f (psNx T n (psTn (p.2.2.1 + 1) p))).2))
       else (false, (psPt T n at0 kd f (psNx T n (psTn (p.2.2.1 + 1) p))).2))
    else if ¬ psSg 40 p ∨ p.2.1 = 8 then (false, p)
    else if (psEi T n at0 (psPt T n at0 kd f) (psNx T n (psDp (p.2.1 + 1) p))).1 = true ∧ psSg 41 (psEi T n at0 (psPt T n at0 kd f) (psNx T n (psDp (p.2.1 + 1) p))).2 then
      (true, psNx T n (psDp ((psEi T n at0 (psPt T n at0 kd f) (psNx T n (psDp (p.2.1 + 1) p))).2.2.1 - 1) (psEi T n at0 (psPt T n at0 kd f) (psNx T n (psDp (p.2.1 + 1) p))).2))
    else (false, (psEi T n at0 (psPt T n at0 kd f) (psNx T n (psDp (p.2.1 + 1) p))).2)
