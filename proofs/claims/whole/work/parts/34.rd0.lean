/-! WHAT IS READ: a tape of n bytes as a function T (-1 behind its end); a reading ends at a place or with a fault there -/
def bd {α β : Type} (x : Except Nat α) (f : α → Except Nat β) : Except Nat β := match x with
  | .error q => .error q
  | .ok a => f a
theorem bd_ok {α β : Type} {a : α} {f : α → Except Nat β} : bd (.ok a) f = f a := rfl
theorem bd_er {α β : Type} {q : Nat} {f : α → Except Nat β} : bd (.error q) f = .error q := rfl
theorem bd_bd {α β γ : Type} {x : Except Nat α} {f : α → Except Nat β} {h : β → Except Nat γ} : bd (bd x f) h = bd x (fun a => bd (f a) h) := by cases x <;> rfl
/-- a run of bytes of which c holds: its end -/
def runB (c : Int32 → Bool) (T : Nat → Int32) : Nat → Nat → Nat
  | 0, p => p
  | m + 1, p => if c (T p) = true then runB c T m (p + 1) else p
theorem runB_le {c : Int32 → Bool} {T : Nat → Int32} : ∀ m p, p ≤ runB c T m p ∧ runB c T m p ≤ p + m := by
  intro m
  induction m with
  | zero => intro p; exact ⟨Nat.le_refl _, Nat.le_refl _⟩
  | succ m ih =>
    intro p
    simp only [runB]
    split
    · have := ih (p + 1); omega
    · omega
theorem runB_all {c : Int32 → Bool} {T : Nat → Int32} : ∀ m p i, p ≤ i → i < runB c T m p → c (T i) = true := by
  intro m
  induction m with
  | zero => intro p i h1 h2; simp only [runB] at h2; omega
  | succ m ih =>
    intro p i h1 h2
    simp only [runB] at h2
    by_cases hc : c (T p) = true
    · rw [if_pos hc] at h2
      by_cases hi : i = p
      · rw [hi]; exact hc
      · exact ih (p + 1) i (by omega) h2
    · rw [if_neg hc] at h2; omega
def bl1 (b : Int32) : Bool := decide (b.toInt = 9 ∨ b.toInt = 10 ∨ b.toInt = 13 ∨ b.toInt = 32)
def sk (T : Nat → Int32) (n p : Nat) : Nat := runB bl1 T (n - p) p
def we (T : Nat → Int32) (n p : Nat) : Nat := runB pLet T (n - p) p
theorem sk_le {T : Nat → Int32} {n p : Nat} (h : p ≤ n) : p ≤ sk T n p ∧ sk T n p ≤ n := by have := runB_le (c := bl1) (T := T) (n - p) p; simp only [sk]; omega
theorem we_le {T : Nat → Int32} {n p : Nat} (h : p ≤ n) : p ≤ we T n p ∧ we T n p ≤ n := by have := runB_le (c := pLet) (T := T) (n - p) p; simp only [we]; omega
/-- these bytes come -/
def mt (T : Nat → Int32) : List Int32 → Nat → Bool
  | [], _ => true
  | b :: L, p => decide ((T p).toInt = b.toInt) && mt T L (p + 1)
def mu (T : Nat → Int32) : List Int32 → Nat → Except Nat Nat
  | [], p => .ok p
  | b :: L, p => if (T p).toInt = b.toInt then mu T L (p + 1) else .error p
def ml (T : Nat → Int32) (n : Nat) : List Int32 → Nat → Except Nat Nat
  | [], p => .ok p
  | b :: L, p => if b.toInt = 32 then ml T n L (sk T n p) else if (T p).toInt = b.toInt then ml T n L (p + 1) else .error p
def me (n p : Nat) : Except Nat Nat := if n ≤ p then .ok p else .error p
/-! names -/
abbrev nm_T : Type := Nat × (Nat → Nat) × (Nat → Nat → Int32)
def nmF (N : nm_T) (T : Nat → Int32) (a len : Nat) : Option Nat := fdB (fun v => decide (N.2.1 v = len) && eqB (N.2.2 v) (fun i => T (a + i)) len 0) N.1 0
def nmA (N : nm_T) (T : Nat → Int32) (a len : Nat) : nm_T := (N.1 + 1, fun v => if v = N.1 then len else N.2.1 v, fun v i => if v = N.1 then T (a + i) else N.2.2 v i)
def nn (T : Nat → Int32) (n : Nat) (N : nm_T) (p : Nat) : Except Nat (Nat × nm_T) := if (1 ≤ we T n p - p ∧ we T n p - p ≤ 8) ∧ N.1 < 6 ∧ nmF N T p (we T n p - p) = none then .ok (we T n p, nmA N T p (we T n p - p)) else .error p
def rn (T : Nat → Int32) (n : Nat) (N : nm_T) (lo p : Nat) : Except Nat (Nat × Nat) := match nmF N T p (we T n p - p) with
  | none => .error p
  | some v => if lo ≤ v then .ok (we T n p, v) else .error p
/-! words -/
def wm (T : Nat → Int32) (p e j : Nat) : Bool := decide (e - p = (tx j).length) && mt T (tx j) p
def kw (T : Nat → Int32) (n p : Nat) : Except Nat (Nat × Nat) := if wm T p (we T n p) 67 = true then .ok (we T n p, 0) else if wm T p (we T n p) 68 = true then .ok (we T n p, 1) else if wm T p (we T n p) 69 = true then .ok (we T n p, 2) else .error p
def tgV (T : Nat → Int32) (p : Nat) : Nat := 26 * ((T p).toInt - 97).toNat + ((T (p + 1)).toInt - 97).toNat
def ew (T : Nat → Int32) (n kd p : Nat) : Except Nat (Nat × Nat) := if kd = 3 then (if we T n p - p = 2 then .ok (we T n p, tgV T p) else .error p) else if wm T p (we T n p) 19 = true then .ok (we T n p, 0) else if wm T p (we T n p) 20 = true then .ok (we T n p, 1) else if wm T p (we T n p) 21 = true then .ok (we T n p, 2) else if wm T p (we T n p) 22 = true then .ok (we T n p, 3) else .error p
def tr (T : Nat → Int32) (p : Nat) : Except Nat (Nat × Nat) := if (T p).toInt = 116 then bd (mu T (tx 87) p) (fun p => .ok (p, 1)) else bd (mu T (tx 88) p) (fun p => .ok (p, 0))
/-! texts -/
def un (sl : Bool) (b : Int32) : Option Int32 := if b.toInt = 34 ∨ b.toInt = 92 ∨ (sl = true ∧ b.toInt = 47) then some b else if b.toInt = 116 then some (nI 9) else if b.toInt = 110 then some (nI 10) else if b.toInt = 114 then some (nI 13) else none
abbrev tx_T : Type := Nat × List Int32
def bt (T : Nat → Int32) (sl : Bool) : Nat → Nat → List Int32 → Except Nat tx_T
  | 0, p, _ => .error p
  | m + 1, p, L => if (T p).toInt = 34 then .ok (p + 1, L) else if 20 ≤ L.length then .error p else if (T p).toInt = 92 then (match un sl (T (p + 1)) with
      | none => .error p
      | some c => bt T sl m (p + 2) (L ++ [c])) else if pPr (T p) = true then bt T sl m (p + 1) (L ++ [T p]) else .error p
def en (T : Nat → Int32) (p : Nat) : Option (Int32 × Nat) := if mt T (tx 37) p = true then some (nI 38, 5) else if mt T (tx 38) p = true then some (nI 60, 4) else if mt T (tx 39) p = true then some (nI 62, 4) else if mt T (tx 40) p = true then some (nI 13, 5) else if mt T (tx 83) p = true then some (nI 34, 6) else none
def xt (T : Nat → Int32) : Nat → Nat → List Int32 → Except Nat tx_T
  | 0, p, _ => .error p
  | m + 1, p, L => if (T p).toInt = 60 then .ok (p, L) else if 20 ≤ L.length then .error p else if (T p).toInt = 38 then (match en T p with
      | none => .error p
      | some c => xt T m (p + c.2) (L ++ [c.1])) else if pTx (T p) = true ∧ (T p).toInt ≠ 62 ∧ (T p).toInt ≠ 13 then xt T m (p + 1) (L ++ [T p]) else .error p
def cq (T : Nat → Int32) : Nat → Nat → List Int32 → Except Nat tx_T
  | 0, p, _ => .error p
  | m + 1, p, L => if (T p).toInt = 34 ∧ (T (p + 1)).toInt ≠ 34 then .ok (p + 1, L) else if 20 ≤ L.length ∨ pTx (T p) = false then .error p else cq T m (if (T p).toInt = 34 then p + 2 else p + 1) (L ++ [T p])
def pBa (b : Int32) : Bool := decide ((32 ≤ b.toInt ∧ b.toInt ≤ 126 ∨ b.toInt = 9) ∧ b.toInt ≠ 34 ∧ b.toInt ≠ 44)
def cb (T : Nat → Int32) : Nat → Nat → List Int32 → Except Nat tx_T
  | 0, p, _ => .error p
  | m + 1, p, L => if pBa (T p) = false then .ok (p, L) else if 20 ≤ L.length then .error p else cb T m (p + 1) (L ++ [T p])
def xn (T : Nat → Int32) : Nat → Nat → List Int32 → Except Nat tx_T
  | 0, p, _ => .error p
  | m + 1, p, L => if (T p).toInt = 62 then .ok (p, L) else if 20 ≤ L.length ∨ pTx (T p) = false then .error p else xn T m (p + 1) (L ++ [T p])
def bk (T : Nat → Int32) : Nat → Nat → List Int32 → tx_T
  | 0, p, L => (p, L)
  | m + 1, p, L => if pLD (T p) = true then bk T m (p + 1) (L ++ [T p]) else (p, L)
def okL (kd : Nat) (L : List Int32) : Bool := okK kd (fun i => L.getD i 0) L.length
/-- a text that has been read, if it is one of kind kd -/
def okT (kd q : Nat) (x : Except Nat tx_T) : Except Nat tx_T := bd x (fun y => if okL kd y.2 = true then .ok y else .error q)
def bkT (T : Nat → Int32) (p : Nat) : Except Nat tx_T := okT 1 p (.ok (bk T 9 p []))
/-! terms: place, kind, extra, text -/
abbrev it_T : Type := Nat × Nat × Nat × List Int32
def jv (T : Nat → Int32) (n p : Nat) : Except Nat (Nat × Nat × List Int32) := bd (ml T n (tx 66) p) (fun p => bd (kw T n p) (fun y => bd (ml T n (tx 70) y.1) (fun p => bd (okT y.2 p (bt T true 21 p [])) (fun z => .ok (z.1, y.2, z.2)))))
def jy (T : Nat → Int32) (n kd : Nat) (p : Nat) : Except Nat (Nat × Nat) := bd (ml T n (tx (if kd = 3 then 71 else 72)) p) (fun p => bd (ew T n kd p) (fun y => bd (ml T n (tx 62) y.1) (fun p => bd (mu T (tx 73) p) (fun p => .ok (p, y.2)))))
def jx (T : Nat → Int32) (n kd p : Nat) (L : List Int32) : Except Nat it_T := if kd = 2 ∧ (T (sk T n p)).toInt = 44 then bd (ml T n (tx 61) (sk T n p + 1)) (fun p => bd (jy T n (if (T p).toInt = 120 then 3 else 4) p) (fun y => .ok (y.1, (if (T p).toInt = 120 then 3 else 4), y.2, L))) else bd (mu T (tx 73) (sk T n p)) (fun p => .ok (p, kd, 0, L))
def jt (T : Nat → Int32) (n p : Nat) : Except Nat it_T := bd (jv T n p) (fun y => jx T n y.2.1 y.1 y.2.2)
def xy (T : Nat → Int32) (n kd p : Nat) : Except Nat (Nat × Nat × Nat) := bd (mu T (tx (if kd = 3 then 79 else 80)) p) (fun p => bd (ew T n kd p) (fun y => bd (mu T (tx 81) y.1) (fun p => bd (mu T (tx 82) p) (fun p => .ok (p, kd, y.2)))))
def xo (T : Nat → Int32) (n p : Nat) : Except Nat (Nat × Nat × Nat) := if (T p).toInt = 117 then bd (mu T (tx 76) p) (fun p => .ok (p, 0, 0)) else if (T p).toInt = 98 then bd (mu T (tx 77) p) (fun p => .ok (p, 1, 0)) else bd (mu T (tx 78) p) (fun p => if (T p).toInt = 32 then xy T n (if (T (p + 1)).toInt = 120 then 3 else 4) (p + 1) else bd (mu T (tx 82) p) (fun p => .ok (p, 2, 0)))
def xm (T : Nat → Int32) (n p : Nat) : Except Nat it_T := bd (xo T n p) (fun y => bd (okT y.2.1 y.1 (xt T 21 y.1 [])) (fun z => .ok (z.1, y.2.1, y.2.2, z.2)))
def xc (kd : Nat) : Nat := if kd = 0 then 41 else if kd = 1 then 42 else 43
def ci (T : Nat → Int32) (p : Nat) : Except Nat (Nat × Option (Nat × Nat × List Int32)) := if (T p).toInt = 34 then bd (cq T 21 (p + 1) []) (fun z => .ok (z.1, some (2, 0, z.2))) else if mt T (tx 47) p = true then bd (bkT T (p + 2)) (fun z => .ok (z.1, some (1, 0, z.2))) else if pBa (T p) = true then bd (cb T 21 p []) (fun z => .ok (z.1, some (2, 0, z.2))) else .ok (p, none)
def tl (T : Nat → Int32) (n p : Nat) (L : List Int32) : Except Nat (Nat × Option (Nat × Nat × List Int32)) := if (T p).toInt = 64 then bd (mu T (tx 84) p) (fun p => bd (ew T n 3 p) (fun y => .ok (y.1, some (3, y.2, L)))) else if (T p).toInt = 94 then bd (mu T (tx 85) p) (fun p => bd (ew T n 4 p) (fun y => .ok (y.1, some (4, y.2, L)))) else .ok (p, some (2, 0, L))
def ti (T : Nat → Int32) (n p : Nat) : Except Nat (Nat × Option (Nat × Nat × List Int32)) := if (T p).toInt = 60 then bd (okT 0 (p + 1) (xn T 21 (p + 1) [])) (fun z => .ok (z.1 + 1, some (0, 0, z.2))) else if (T p).toInt = 95 then bd (mu T (tx 50) p) (fun p => bd (bkT T p) (fun z => .ok (z.1, some (1, 0, z.2)))) else if (T p).toInt = 34 then bd (bt T false 21 (p + 1) []) (fun z => tl T n z.1 z.2) else .ok (p, none)
def li (c : Bool) (T : Nat → Int32) (n p : Nat) : Except Nat (Nat × Option (Nat × Nat × List Int32)) := if c then ci T p else ti T n p
/-! rows: items are (number of the cell, kind, extra, text), in order -/
abbrev sq_T : Type := List it_T
def jb (T : Nat → Int32) (n : Nat) (N : nm_T) (r : Nat) : Nat → Nat → Nat → sq_T → Except Nat (Nat × sq_T)
  | 0, p, _, _ => .error p
  | m + 1, p, lo, s => bd (ml T n (tx 61) p) (fun p => bd (rn T n N lo p) (fun y => bd (jt T n y.1) (fun z => if (T (sk T n z.1)).toInt = 44 then jb T n N r m (sk T n z.1 + 1) (y.2 + 1) (s ++ [(r * 6 + y.2, z.2)]) else bd (mu T (tx 73) (sk T n z.1)) (fun p => .ok (p, s ++ [(r * 6 + y.2, z.2)])))))
def jw (T : Nat → Int32) (n : Nat) (N : nm_T) (r p : Nat) (s : sq_T) : Except Nat (Nat × sq_T) := bd (ml T n (tx 65) p) (fun p => if (T p).toInt = 125 then .ok (p + 1, s) else jb T n N r 7 p 0 s)
def js (T : Nat → Int32) (n : Nat) (N : nm_T) : Nat → Nat → Nat → sq_T → Except Nat (Nat × Nat × sq_T)
  | 0, p, _, _ => .error p
  | m + 1, p, r, s => if r < 24 then bd (jw T n N r (sk T n p) s) (fun y => if (T (sk T n y.1)).toInt = 44 then js T n N m (sk T n y.1 + 1) (r + 1) y.2 else bd (mu T (tx 63) (sk T n y.1)) (fun p => .ok (p, r + 1, y.2))) else .error (sk T n p)
def jr (T : Nat → Int32) (n : Nat) (N : nm_T) (p : Nat) : Except Nat (Nat × Nat × sq_T) := if (T p).toInt = 93 then .ok (p + 1, 0, []) else js T n N 25 p 0 []
def jm (T : Nat → Int32) (n : Nat) : Nat → Nat → nm_T → Except Nat (Nat × nm_T)
  | 0, p, _ => .error p
  | m + 1, p, N => bd (ml T n (tx 61) p) (fun p => bd (nn T n N p) (fun y => bd (ml T n (tx 62) y.1) (fun p => if (T p).toInt = 44 then jm T n m (p + 1) y.2 else bd (mu T (tx 63) p) (fun p => .ok (p, y.2)))))
def jn (T : Nat → Int32) (n : Nat) (N : nm_T) (p : Nat) : Except Nat (Nat × nm_T) := if (T p).toInt = 93 then .ok (p + 1, N) else jm T n 7 p N
abbrev rd_T : Type := nm_T × Nat × sq_T
def rdJ (T : Nat → Int32) (n : Nat) (N : nm_T) : Except Nat rd_T := bd (ml T n (tx 60) 0) (fun p => bd (jn T n N p) (fun y => bd (ml T n (tx 64) y.1) (fun p => bd (jr T n y.2 p) (fun z => bd (ml T n (tx 74) z.1) (fun p => bd (me n p) (fun _ => .ok (y.2, z.2)))))))
def ic (T : Nat → Int32) (p : Nat) : Prop := (T p).toInt = 60 ∧ (T (p + 1)).toInt = 47
def xb (T : Nat → Int32) (n : Nat) (N : nm_T) (r : Nat) : Nat → Nat → Nat → sq_T → Except Nat (Nat × sq_T)
  | 0, p, _, _ => .error p
  | m + 1, p, lo, s => if (T p).toInt = 60 ∧ (T (p + 1)).toInt = 47 then bd (mu T (tx 45) p) (fun p => .ok (p, s)) else bd (mu T (tx 30) p) (fun p => bd (rn T n N lo p) (fun y => bd (mu T (tx 75) y.1) (fun p => bd (xm T n p) (fun z => bd (mu T (tx (xc z.2.1)) z.1) (fun p => bd (mu T (tx 44) p) (fun p => xb T n N r m p (y.2 + 1) (s ++ [(r * 6 + y.2, z.2)])))))))
def xs (T : Nat → Int32) (n : Nat) (N : nm_T) : Nat → Nat → Nat → sq_T → Except Nat (Nat × Nat × sq_T)
  | 0, p, _, _ => .error p
  | m + 1, p, r, s => if (T p).toInt = 60 ∧ (T (p + 1)).toInt = 47 then .ok (p, r, s) else if r < 24 then bd (mu T (tx 29) p) (fun p => bd (xb T n N r 7 p 0 s) (fun y => xs T n N m y.1 (r + 1) y.2)) else .error p
def xk (T : Nat → Int32) (n : Nat) : Nat → Nat → nm_T → Except Nat (Nat × nm_T)
  | 0, p, _ => .error p
  | m + 1, p, N => if (T p).toInt = 60 ∧ (T (p + 1)).toInt = 47 then .ok (p, N) else bd (mu T (tx 26) p) (fun p => bd (nn T n N p) (fun y => bd (mu T (tx 27) y.1) (fun p => xk T n m p y.2)))
def rdX (T : Nat → Int32) (n : Nat) (N : nm_T) : Except Nat rd_T := bd (mu T (tx 25) 0) (fun p => bd (xk T n 7 p N) (fun y => bd (mu T (tx 28) y.1) (fun p => bd (xs T n y.2 25 p 0 []) (fun z => bd (mu T (tx 46) z.1) (fun p => bd (me n p) (fun _ => .ok (y.2, z.2)))))))
def lk (c : Bool) (T : Nat → Int32) (n : Nat) : Nat → Nat → nm_T → Except Nat (Nat × nm_T)
  | 0, p, _ => .error p
  | m + 1, p, N => bd (mu T (w_lm c) p) (fun p => bd (nn T n N p) (fun y => if (T y.1).toInt = (w_ls c).toInt then lk c T n m (y.1 + 1) y.2 else bd (mu T (w_le c) y.1) (fun p => .ok (p, y.2))))
def ln (c : Bool) (T : Nat → Int32) (n : Nat) (N : nm_T) (p : Nat) : Except Nat (Nat × nm_T) := if (T p).toInt = (if c then 13 else 10) then bd (mu T (w_le c) p) (fun p => .ok (p, N)) else lk c T n 7 p N
def adI (k : Nat) (o : Option (Nat × Nat × List Int32)) (s : sq_T) : sq_T := match o with
  | none => s
  | some y => s ++ [(k, y)]
def lb (c : Bool) (T : Nat → Int32) (n r : Nat) : Nat → Nat → Nat → sq_T → Except Nat (Nat × sq_T)
  | 0, _, p, s => bd (mu T (w_le c) p) (fun p => .ok (p, s))
  | m + 1, v, p, s => bd (if 0 < v then (if (T p).toInt = (w_ls c).toInt then .ok (p + 1) else .error p) else .ok p) (fun p => bd (li c T n p) (fun y => lb c T n r m (v + 1) y.1 (adI (r * 6 + v) y.2 s)))
def ls (c : Bool) (T : Nat → Int32) (n nv : Nat) : Nat → Nat → Nat → sq_T → Except Nat (Nat × Nat × sq_T)
  | 0, p, _, _ => .error p
  | m + 1, p, r, s => if n ≤ p then .ok (p, r, s) else if r < 24 then bd (lb c T n r nv 0 p s) (fun y => ls c T n nv m y.1 (r + 1) y.2) else .error p
def rdL (c : Bool) (T : Nat → Int32) (n : Nat) (N : nm_T) : Except Nat rd_T := bd (ln c T n N 0) (fun y => bd (ls c T n y.2.1 25 y.1 0 []) (fun z => .ok (y.2, z.2)))
def hrJ (T : Nat → Int32) (n : Nat) : Except Nat Nat := bd (ml T n (tx 86) 0) (fun p => bd (tr T p) (fun y => bd (ml T n (tx 89) y.1) (fun p => bd (me n p) (fun _ => .ok y.2))))
def hrX (T : Nat → Int32) (n : Nat) : Except Nat Nat := bd (mu T (tx 58) 0) (fun p => bd (tr T p) (fun y => bd (mu T (tx 59) y.1) (fun p => bd (me n p) (fun _ => .ok y.2))))
/-! the class's state while it reads -/
def QC (S : aw_S) (p q w l k e z : Int32) (X : Nat → Int32) : aw_S := (fun j => if j = 2601 then p else if j = 2602 then q else if j = 2603 then w else if j = 2604 then l else if j = 2605 then k else if j = 2606 then e else if j = 2701 then z else S.1 j, fun c => if c = 28 then X else S.2 c)
/-- a text as an array -/
def XA (L : List Int32) (f : Nat → Int32) : Nat → Int32 := fun i => if i < L.length then L.getD i 0 else f i
theorem XA_nil {f : Nat → Int32} : XA [] f = f := by
  funext i
  simp only [XA, List.length_nil]
  rw [if_neg (by omega)]
theorem XA_add {L : List Int32} {f : Nat → Int32} {b : Int32} : upd (XA L f) L.length b = XA (L ++ [b]) f := by
  funext i
  simp only [upd, XA, List.length_append, List.length_singleton]
  by_cases h1 : i = L.length
  · rw [if_pos h1, if_pos (by omega), h1]; simp [List.getD]
  · rw [if_neg h1]
    by_cases h2 : i < L.length
    · rw [if_pos h2, if_pos (by omega)]; simp only [List.getD]; rw [List.getElem?_append_left (by omega)]
    · rw [if_neg h2, if_neg (by omega)]
/-- the tape of the class, of the reference -/
def TPc (S : aw_S) (n : Nat) (T : Nat → Int32) : Prop := S.1 101 = nI n ∧ n ≤ 3000 ∧ (∀ i, i < n → S.2 2 i = T i) ∧ (∀ i, n ≤ i → T i = -1) ∧ True
def TPm (S : aw_S) (n : Nat) (T : Nat → Int32) : Prop := S.1 3300 = nI n ∧ n ≤ 3000 ∧ (∀ i, i < n → S.2 34 i = T i) ∧ (∀ i, n ≤ i → T i = -1) ∧ True
theorem m1i : (-1 : Int32).toInt = -1 := rfl
theorem T_lt {n p : Nat} {T : Nat → Int32} (h : ∀ i, n ≤ i → T i = -1) (hp : 0 ≤ (T p).toInt) : p < n := by
  refine Nat.lt_of_not_le (fun q => ?_)
  rw [h p q] at hp
  exact absurd hp (by decide)
/-- a fault: the rest of the scanner is anyhow -/
def CF (S : aw_S) (u : Nat) (h : aw_hp) : Prop := ∃ (p w l k e z : Int32) (X : Nat → Int32), h = HP (QC S p (nI u) w l k e z X)
theorem CF_i {S : aw_S} {u : Nat} {p w l k e z : Int32} {X : Nat → Int32} : CF S u (HP (QC S p (nI u) w l k e z X)) := ⟨p, w, l, k, e, z, X, rfl⟩
/-- the end of a class's method that answers whether it went -/
def CE {α : Type} (S : aw_S) (res : Except Nat α) (G : α → aw_hp → Prop) (r : Option Value) (h : aw_hp) : Prop := match res with
  | .ok a => r = some (.int (nI 1)) ∧ G a h
  | .error u => r = some (.int (nI 0)) ∧ CF S u h
theorem CE_ok {α : Type} {S : aw_S} {a : α} {G : α → aw_hp → Prop} {h : aw_hp} (hg : G a h) : CE S (.ok a) G (some (.int (nI 1))) h := ⟨rfl, hg⟩
theorem CE_er {α : Type} {S : aw_S} {u : Nat} {G : α → aw_hp → Prop} {h : aw_hp} (hf : CF S u h) : CE S (.error u) G (some (.int (nI 0))) h := ⟨rfl, hf⟩
theorem tx_dropS {j i : Nat} (hj : j < aw_nS) (h : i < aw_len.getD j 0) : (tx j).drop i = aw_ch j i :: (tx j).drop (i + 1) := by
  have hl : i < (tx j).length := by rw [show (tx j).length = aw_len.getD j 0 from (aw_len_is hj).symm]; exact h
  rw [List.drop_eq_getElem_cons hl]
  have : (tx j)[i] = aw_ch j i := by
    show _ = (tx j).getD i 0
    simp [List.getD, List.getElem?_eq_getElem hl]
  rw [this]
theorem tx_dropZ {j i : Nat} (hj : j < aw_nS) (h : aw_len.getD j 0 ≤ i) : (tx j).drop i = [] := List.drop_eq_nil_of_le (by rw [show (tx j).length = aw_len.getD j 0 from (aw_len_is hj).symm]; exact h)
theorem tx_len {j : Nat} (hj : j < aw_nS) : (tx j).length = aw_len.getD j 0 := (aw_len_is hj).symm
def uI : Option Int32 → Int32
  | none => -1
  | some c => c
