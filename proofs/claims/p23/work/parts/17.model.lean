/-! the mathematical contest, and what it is in the class -/
/-- the cells of a contest at c -/
def CT (S : AMem) (R : Nat → Nat → Option Nat) (c : Nat) : Prop :=
  S.K c = 3 ∧ R c 0 = some (c + 1) ∧ R c 1 = some (c + 5) ∧ R c 2 = some (c + 7) ∧ R c 3 = some (c + 9) ∧ R c 4 = some (c + 10) ∧ R c 5 = some (c + 11) ∧ R c 6 = some (c + 12) ∧ R c 7 = some (c + 13) ∧
  (S.K (c + 1) = 2 ∧ R (c + 1) 0 = some (c + 2) ∧ R (c + 1) 1 = some (c + 3) ∧ R (c + 1) 2 = some (c + 4) ∧ S.K (c + 2) = 20 ∧ S.ln (c + 2) = 400 ∧ S.K (c + 3) = 20 ∧ S.ln (c + 3) = 400 ∧ S.K (c + 4) = 20 ∧ S.ln (c + 4) = 400) ∧
  (S.K (c + 5) = 1 ∧ R (c + 5) 0 = some (c + 6) ∧ S.K (c + 6) = 20 ∧ S.ln (c + 6) = 10) ∧
  (S.K (c + 7) = 5 ∧ R (c + 7) 0 = some (c + 8) ∧ S.K (c + 8) = 20 ∧ S.ln (c + 8) = 301) ∧
  (S.K (c + 9) = 22 ∧ S.ln (c + 9) = 4 ∧ ∀ i, i < 4 → R (c + 9) i = some (c + 14 + 2 * i) ∧ S.K (c + 14 + 2 * i) = 7 ∧ R (c + 14 + 2 * i) 0 = some (c + 15 + 2 * i) ∧ S.K (c + 15 + 2 * i) = 20 ∧ S.ln (c + 15 + 2 * i) = 100) ∧
  (S.K (c + 10) = 23 ∧ S.ln (c + 10) = 8 ∧ ∀ i, i < 8 → R (c + 10) i = some (c + 22 + i) ∧ S.K (c + 22 + i) = 4) ∧
  (S.K (c + 11) = 24 ∧ S.ln (c + 11) = 8 ∧ ∀ i, i < 8 → R (c + 11) i = some (c + 30 + i) ∧ S.K (c + 30 + i) = 6) ∧
  (S.K (c + 12) = 25 ∧ S.ln (c + 12) = 20 ∧ ∀ i, i < 20 → R (c + 12) i = some (c + 38 + i) ∧ S.K (c + 38 + i) = 11) ∧
  S.K (c + 13) = 20 ∧ S.ln (c + 13) = 20
/-- what a sum or a test means: a number, by the readings -/
abbrev Sem : Type := (Int32 → Int32 → Int32) → Int32
/-- what is told: rails, fists, prizes, turns; rust by rail and place; a turn's fist, rail, test; a prize's worth and test -/
abbrev BS : Type := (Nat × Nat × Nat × Nat) × (Nat → Nat → Int32) × (Nat → Nat) × (Nat → Nat) × (Nat → Option Sem) × (Nat → Sem) × (Nat → Sem)
def BS.nR (B : BS) : Nat := B.1.1
def BS.nF (B : BS) : Nat := B.1.2.1
def BS.nP (B : BS) : Nat := B.1.2.2.1
def BS.nT (B : BS) : Nat := B.1.2.2.2
def BS.rust (B : BS) : Nat → Nat → Int32 := B.2.1
def BS.tF (B : BS) : Nat → Nat := B.2.2.1
def BS.tR (B : BS) : Nat → Nat := B.2.2.2.1
def BS.tt (B : BS) : Nat → Option Sem := B.2.2.2.2.1
def BS.wo (B : BS) : Nat → Sem := B.2.2.2.2.2.1
def BS.te (B : BS) : Nat → Sem := B.2.2.2.2.2.2
/-- how it stands. fist: 0 arm 1 aim 2 elbows 3 sore 4 purse 5 strikes 6 best 7 bells 8 struck; rail: 0 high 1 puck 2 spring 3 best 4 strikes; prize: 0 left 1 given; g: 0 round 1 height 2 bells 3 strikes 4 bells in all; the row of turns; the board and how many stand on it -/
abbrev MS : Type := (Nat → Nat → Int32) × (Nat → Nat → Int32) × (Nat → Nat → Int32) × (Nat → Int32) × (Nat → Nat) × (Nat → Int32) × Nat
def MS.fist (m : MS) : Nat → Nat → Int32 := m.1
def MS.rail (m : MS) : Nat → Nat → Int32 := m.2.1
def MS.prize (m : MS) : Nat → Nat → Int32 := m.2.2.1
def MS.g (m : MS) : Nat → Int32 := m.2.2.2.1
def MS.row (m : MS) : Nat → Nat := m.2.2.2.2.1
def MS.bd (m : MS) : Nat → Int32 := m.2.2.2.2.2.1
def MS.nb (m : MS) : Nat := m.2.2.2.2.2.2
def mkMS (fist rail prize : Nat → Nat → Int32) (g : Nat → Int32) (row : Nat → Nat) (bd : Nat → Int32) (nb : Nat) : MS := (fist, rail, prize, g, row, bd, nb)
/-- what a word of the language reads -/
def rdM (B : BS) (m : MS) (k a : Int32) : Int32 :=
  if k = 319 then m.g 1 else if k = 320 then m.g 2 else if k = 321 then m.g 0
  else if k = 326 then bI (0 < m.g 2)
  else if k = 322 then (if 0 ≤ a ∧ a < nI B.nF then m.fist a.toNatClampNeg 4 else 0)
  else if k = 323 then (if 0 ≤ a ∧ a < nI B.nF then m.fist a.toNatClampNeg 3 else 0)
  else if k = 324 then (if 0 ≤ a ∧ a < nI B.nR then m.rail a.toNatClampNeg 3 else 0)
  else (if 0 ≤ a ∧ a < nI B.nP then m.prize a.toNatClampNeg 0 else 0)
def ruM (B : BS) (r : Nat) (p : Int32) : Int32 := if 0 ≤ p ∧ p < 100 then B.rust r p.toNatClampNeg else 0
def fcM (m : MS) (f : Nat) (arm : Int32) : Int32 := if 0 < arm + m.fist f 1 - m.fist f 3 then arm + m.fist f 1 - m.fist f 3 else 0
/-- the flight of fist f at rail r with an arm, behind so many ticks -/
def flM (B : BS) (m : MS) (f r : Nat) (arm : Int32) (n : Nat) : Int32 × Int32 × Int32 × Int32 × Nat × Int32 := flS (m.rail r 0) (m.rail r 2) (ruM B r) (4 * fcM m f arm / m.rail r 1) n
/-- the first prize from k on, of n more, that is given -/
def fpM (B : BS) (m : MS) : Nat → Nat → Option Nat
  | _, 0 => none
  | k, n + 1 => if 0 < m.prize k 0 ∧ B.te k (rdM B m) ≠ 0 then some k else fpM B m (k + 1) n
def up1 {α : Type} (f : Nat → α) (k : Nat) (v : α) : Nat → α := fun j => if j = k then v else f j
def givM (B : BS) (m : MS) (f : Nat) : MS := match fpM B m 0 B.nP with
  | none => m
  | some k =>
    let m1 := mkMS m.fist m.rail (up2 (up2 m.prize k 0 (m.prize k 0 - 1)) k 1 (m.prize k 1 + 1)) m.g m.row m.bd m.nb
    mkMS (up2 m1.fist f 4 (m1.fist f 4 + B.wo k (rdM B m1))) m1.rail m1.prize m1.g m1.row m1.bd m1.nb
/-- a strike, ahead of the prizes -/
def stkM (B : BS) (m : MS) (f r : Nat) : MS :=
  let fl := flM B m f r (m.fist f 0) 300
  let h := fl.2.2.1
  let b := fl.2.2.2.1
  mkMS (fun i j => if i = f then (if j = 3 then (if m.fist f 3 + m.rail r 1 < 60 then m.fist f 3 + m.rail r 1 else 60) else if j = 5 then m.fist f 5 + 1 else if j = 6 then (if m.fist f 6 < h then h else m.fist f 6) else if j = 7 then m.fist f 7 + b else if j = 8 then 1 else m.fist i j) else m.fist i j)
    (fun i j => if i = r then (if j = 3 then (if m.rail r 3 < h then h else m.rail r 3) else if j = 4 then m.rail r 4 + 1 else m.rail i j) else m.rail i j)
    m.prize (fun j => if j = 1 then h else if j = 2 then b else if j = 3 then m.g 3 + 1 else if j = 4 then m.g 4 + b else m.g j) m.row (fun k => if k = 0 then h else m.bd (k - 1)) (if m.nb < 10 then m.nb + 1 else m.nb)
def hitM (B : BS) (m : MS) (f r : Nat) : MS := givM B (stkM B m f r) f
/-- the turn at a place of the row is due -/
def dueM (B : BS) (m : MS) (t : Nat) : Prop := match B.tt t with
  | none => True
  | some s => s (rdM B m) ≠ 0
/-- elbows: the places from k on, of n more -/
def elbM (B : BS) : Nat → Nat → MS → MS
  | _, 0, m => m
  | k, n + 1, m => elbM B (k + 1) n (if m.fist (B.tF (m.row (k - 1))) 2 + 2 < m.fist (B.tF (m.row k)) 2 then
      mkMS (up2 m.fist (B.tF (m.row k)) 2 (m.fist (B.tF (m.row k)) 2 - 1)) m.rail m.prize m.g (up1 (up1 m.row k (m.row (k - 1))) (k - 1) (m.row k)) m.bd m.nb else m)
noncomputable def trnM (B : BS) : Nat → Nat → MS → MS
  | _, 0, m => m
  | k, n + 1, m => trnM B (k + 1) n (@ite _ (dueM B m (m.row k)) (Classical.propDecidable _) (hitM B m (B.tF (m.row k)) (B.tR (m.row k))) m)
def rstM (m : MS) (nF : Nat) : MS := mkMS (fun i j => if i < nF then (if j = 8 then 0 else if j = 3 then (if m.fist i 8 = 0 then (if 3 < m.fist i 3 then m.fist i 3 - 3 else 0) else m.fist i 3) else m.fist i j) else m.fist i j) m.rail m.prize m.g m.row m.bd m.nb
noncomputable def rndM (B : BS) (m : MS) : MS :=
  let m1 := rstM (trnM B 0 B.nT (elbM B 1 (B.nT - 1) m)) B.nF
  mkMS m1.fist m1.rail m1.prize (up1 m1.g 0 (m1.g 0 + 1)) m1.row m1.bd m1.nb
noncomputable def plyM (B : BS) : Nat → MS → MS
  | 0, m => m
  | n + 1, m => plyM B n (rndM B m)
def sumM (f : Nat → Int32) : Nat → Int32
  | 0 => 0
  | n + 1 => sumM f n + f n
def pursM (B : BS) (m : MS) : Int32 := sumM (fun i => m.fist i 4) B.nF
def gvnM (B : BS) (m : MS) : Int32 := sumM (fun i => m.prize i 1) B.nP
def plcM (B : BS) (m : MS) (p : Int32) : Int32 := 1 + sumM (fun i => bI (p < m.fist i 4)) B.nF
/-- a row of steps means s -/
def SegC (I : Nat → Nat → Int32) (c p q : Nat) (s : Sem) : Prop := ∀ rd, (evE rd (I (c + 2)) (I (c + 3)) p (q - p) []).headD 0 = s rd
/-- what is told, in the class -/
def AbB (I : Nat → Nat → Int32) (c : Nat) (B : BS) : Prop :=
  (I c 8 = nI B.nR ∧ B.nR ≤ 4) ∧ (I c 10 = nI B.nF ∧ B.nF ≤ 8) ∧ (I c 11 = nI B.nP ∧ B.nP ≤ 8) ∧ (I c 12 = nI B.nT ∧ B.nT ≤ 20) ∧
  (∀ i, i < B.nR → ∀ p, p < 100 → I (c + 15 + 2 * i) p = B.rust i p) ∧
  (∀ i, i < B.nT → I (c + 38 + i) 0 = nI (B.tF i) ∧ B.tF i < B.nF ∧ I (c + 38 + i) 1 = nI (B.tR i) ∧ B.tR i < B.nR) ∧
  ∃ z, I (c + 1) 4 = nI z ∧ z ≤ 400 ∧
  (∀ i, i < B.nT → ∃ p q, I (c + 38 + i) 2 = nI p ∧ I (c + 38 + i) 3 = nI q ∧ p ≤ q ∧ q ≤ z ∧ (match B.tt i with | none => p = q | some s => p < q ∧ SegC I c p q s)) ∧
  (∀ i, i < B.nP → ∃ p q t, I (c + 30 + i) 3 = nI p ∧ I (c + 30 + i) 4 = nI q ∧ I (c + 30 + i) 5 = nI t ∧ p ≤ q ∧ q ≤ t ∧ t ≤ z ∧ SegC I c p q (B.wo i) ∧ SegC I c q t (B.te i))
/-- how it stands, in the class -/
def AbM (I : Nat → Nat → Int32) (c : Nat) (B : BS) (m : MS) : Prop :=
  (∀ i, i < B.nF → ∀ j, j < 9 → I (c + 22 + i) (j + 1) = m.fist i j) ∧
  (∀ i, i < B.nR → ∀ j, j < 5 → I (c + 14 + 2 * i) (j + 2) = m.rail i j) ∧
  (∀ i, i < B.nP → ∀ j, j < 2 → I (c + 30 + i) (j + 1) = m.prize i j) ∧
  (∀ j, j < 5 → I c (13 + j) = m.g j) ∧ I c 18 = gvnM B m ∧
  (∀ k, k < B.nT → I (c + 13) k = nI (m.row k) ∧ m.row k < B.nT) ∧
  (∀ k, k < m.nb → I (c + 6) k = m.bd k) ∧ I (c + 5) 1 = nI m.nb ∧ m.nb ≤ 10 ∧
  (∀ i, i < B.nR → 0 < m.rail i 1) ∧ (∀ i, i < 8 → I (c + 22 + i) 9 = 0 ∨ I (c + 22 + i) 9 = 1)
/-- nothing but the contest at c has changed -/
def OffC (c : Nat) (I I1 : Nat → Nat → Int32) : Prop := ∀ x j, (x < c ∨ c + 58 ≤ x) → I1 x j = I x j
theorem OffC.rf {c : Nat} {I : Nat → Nat → Int32} : OffC c I I := fun _ _ _ => rfl
theorem OffC.tr {c : Nat} {I I1 I2 : Nat → Nat → Int32} (h1 : OffC c I I1) (h2 : OffC c I1 I2) : OffC c I I2 := fun x j q => (h2 x j q).trans (h1 x j q)

