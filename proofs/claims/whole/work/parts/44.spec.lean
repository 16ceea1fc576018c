/-! WHAT THE DOCUMENT'S STATE IS, as whole numbers and lists -/
/-- a CHOICE: most (q), money (c), keys (letter, whether +), kept places (kind, digit), 'together' and 'never' as masks of two people -/
abbrev CH : Type := Nat × Option Nat × List (Nat × Bool) × List (Nat × Nat) × List Nat × List Nat
abbrev AS : Type := (Nat × (Nat → Nat)) × Nat × (Nat × (Nat → Nat) × (Nat → Nat) × (Nat → Nat) × (Nat → Nat) × (Nat → Nat)) × (Nat → List Nat) × (Nat × (Nat → Nat) × (Nat → Nat) × (Nat → List (Option Nat × Option Nat))) × (Nat → Option CH) × List Nat × List Int32
def aNp (A : AS) : Nat := A.1.1
def aKd (A : AS) : Nat → Nat := A.1.2
def aNo (A : AS) : Nat := A.2.1
def aNb (A : AS) : Nat := A.2.2.1.1
def aPe (A : AS) : Nat → Nat := A.2.2.1.2.1
def aOf (A : AS) : Nat → Nat := A.2.2.1.2.2.1
def aPa (A : AS) : Nat → Nat := A.2.2.1.2.2.2.1
def aYe (A : AS) : Nat → Nat := A.2.2.1.2.2.2.2.1
def aTo (A : AS) : Nat → Nat := A.2.2.1.2.2.2.2.2
def aLl (A : AS) : Nat → List Nat := A.2.2.2.1
def aNc (A : AS) : Nat := A.2.2.2.2.1.1
def aC1 (A : AS) : Nat → Nat := A.2.2.2.2.1.2.1
def aC2 (A : AS) : Nat → Nat := A.2.2.2.2.1.2.2.1
def aPl (A : AS) : Nat → List (Option Nat × Option Nat) := A.2.2.2.2.1.2.2.2
def aCh (A : AS) : Nat → Option CH := A.2.2.2.2.2.1
def aTx (A : AS) : List Nat := A.2.2.2.2.2.2.1
def aRw (A : AS) : List Int32 := A.2.2.2.2.2.2.2
def cMost (C : CH) : Nat := C.1
def cMoney (C : CH) : Option Nat := C.2.1
def cKeys (C : CH) : List (Nat × Bool) := C.2.2.1
def cKeeps (C : CH) : List (Nat × Nat) := C.2.2.2.1
def cBoths (C : CH) : List Nat := C.2.2.2.2.1
def cNevers (C : CH) : List Nat := C.2.2.2.2.2
/-- how many below n have a property -/
def cntN (p : Nat → Bool) (n : Nat) : Nat := nfo (fun i c => if p i then c + 1 else c) n 0
/-- a CHOICE that a text can tell -/
def CHok (C : CH) : Prop := cMost C ≤ 999 ∧ (∀ m, cMoney C = some m → m ≤ 999) ∧ (cKeys C).length ≤ 5 ∧ (∀ k ∈ cKeys C, k.1 < 5) ∧ (cKeeps C).length ≤ 30 ∧ (∀ k ∈ cKeeps C, k.1 < 4 ∧ k.2 ≤ 9) ∧ (cBoths C).length ≤ 30 ∧ (∀ m ∈ cBoths C, ∃ a b, a < 7 ∧ b < 7 ∧ a ≠ b ∧ m = 2 ^ a ||| 2 ^ b) ∧ (cNevers C).length ≤ 30 ∧ (∀ m ∈ cNevers C, ∃ a b, a < 7 ∧ b < 7 ∧ a ≠ b ∧ m = 2 ^ a ||| 2 ^ b)
/-- a PAIR of couple c -/
def PRok (A : AS) (c : Nat) (q : Option Nat × Option Nat) : Prop := q ≠ (none, none) ∧ (∀ b, q.1 = some b → b < aNb A ∧ aPe A b = aC1 A c) ∧ (∀ b, q.2 = some b → b < aNb A ∧ aPe A b = aC2 A c)
def WF (A : AS) : Prop :=
  (aNp A ≤ 7 ∧ ∀ p, p < aNp A → aKd A p < 4) ∧ aNo A ≤ 4 ∧
  (aNb A ≤ 20 ∧ (∀ b, b < aNb A → aPe A b < aNp A ∧ aOf A b < aNo A ∧ aPa A b ≤ 99 ∧ aYe A b ≤ 9 ∧ aTo A b ≤ 9) ∧ (∀ f, cntN (fun b => aOf A b == f) (aNb A) ≤ 8) ∧ (∀ p, cntN (fun b => aPe A b == p) (aNb A) ≤ 5)) ∧
  (∀ p, (aNp A ≤ p → aLl A p = []) ∧ (aLl A p).length ≤ 5 ∧ (aLl A p).Nodup ∧ ∀ b ∈ aLl A p, b < aNb A ∧ aPe A b = p) ∧
  (aNc A ≤ 2 ∧ (∀ c, c < aNc A → aC1 A c < aNp A ∧ aC2 A c < aNp A ∧ aC1 A c ≠ aC2 A c) ∧ (∀ c d, c < aNc A → d < aNc A → c ≠ d → aC1 A c ≠ aC1 A d ∧ aC1 A c ≠ aC2 A d ∧ aC2 A c ≠ aC2 A d) ∧ (∀ c, (aNc A ≤ c → aPl A c = []) ∧ (aPl A c).length ≤ 8 ∧ (aPl A c).Nodup ∧ ∀ q ∈ aPl A c, PRok A c q)) ∧
  (∀ f, (aNo A ≤ f → aCh A f = none) ∧ ∀ C, aCh A f = some C → CHok C) ∧
  ((aTx A).length ≤ 100 ∧ ∀ x ∈ aTx A, x < 256) ∧ (aRw A).length ≤ 40
def oI : Option Nat → Int32
  | none => -1
  | some b => nI b
-- the reference's memory
def RMp (A : AS) (h : jHp) : Prop := hI h 98 0 = nI (aNp A) ∧ ∀ p, p < aNp A → hI h 99 p = nI (aKd A p)
def RMb (A : AS) (h : jHp) : Prop := hI h 98 2 = nI (aNo A) ∧ hI h 98 3 = nI (aNb A) ∧ ∀ b, b < aNb A → hI h 100 b = nI (aPe A b) ∧ hI h 101 b = nI (aOf A b) ∧ hI h 102 b = nI (aPa A b) ∧ hI h 103 b = nI (aYe A b) ∧ hI h 104 b = nI (aTo A b)
def RMl (A : AS) (h : jHp) : Prop := ∀ p, p < 7 → hI h 106 p = nI (aLl A p).length ∧ ∀ k, k < (aLl A p).length → hI h 105 (5 * p + k) = nI ((aLl A p).getD k 0)
def RMc (A : AS) (h : jHp) : Prop := hI h 98 11 = nI (aNc A) ∧ (∀ c, c < aNc A → hI h 107 c = nI (aC1 A c) ∧ hI h 108 c = nI (aC2 A c)) ∧ ∀ c, c < 2 → hI h 111 c = nI (aPl A c).length ∧ ∀ k, k < (aPl A c).length → hI h 109 (8 * c + k) = oI ((aPl A c).getD k (none, none)).1 ∧ hI h 110 (8 * c + k) = oI ((aPl A c).getD k (none, none)).2
def RMt (A : AS) (h : jHp) : Prop := hI h 98 30 = nI (aTx A).length ∧ ∀ i, i < (aTx A).length → hI h 124 i = (nI ((aTx A).getD i 0)).toInt8.toInt32
def RMr (A : AS) (h : jHp) : Prop := hI h 98 32 = nI (aRw A).length ∧ ∀ i, i < (aRw A).length → hI h 125 i = (aRw A).getD i 0
def kI (k : Nat × Bool) : Int32 := nI (if k.2 then k.1 else k.1 + 5)
def RMch1 (C : CH) (h : jHp) (f : Nat) : Prop := hI h 113 f = nI (cMost C) ∧ hI h 114 f = oI (cMoney C) ∧
  (hI h 116 f = nI (cKeys C).length ∧ ∀ k, k < (cKeys C).length → hI h 115 (5 * f + k) = kI ((cKeys C).getD k (0, true))) ∧
  (hI h 119 f = nI (cKeeps C).length ∧ ∀ k, k < (cKeeps C).length → hI h 117 (30 * f + k) = nI ((cKeeps C).getD k (0, 0)).1 ∧ hI h 118 (30 * f + k) = nI ((cKeeps C).getD k (0, 0)).2) ∧
  (hI h 121 f = nI (cBoths C).length ∧ ∀ k, k < (cBoths C).length → hI h 120 (30 * f + k) = nI ((cBoths C).getD k 0)) ∧
  (hI h 123 f = nI (cNevers C).length ∧ ∀ k, k < (cNevers C).length → hI h 122 (30 * f + k) = nI ((cNevers C).getD k 0))
def RMch (A : AS) (h : jHp) : Prop := ∀ f, f < 4 → match aCh A f with
  | none => hI h 112 f = 0 ∧ hI h 116 f = 0 ∧ hI h 113 f = 0
  | some C => hI h 112 f = 1 ∧ RMch1 C h f
/-- what the reference holds of the state, but its own tables; nobody lies, is silent or missing between calls -/
def RM (A : AS) (h : jHp) : Prop := Shape h ∧ WF A ∧ RMp A h ∧ RMb A h ∧ RMl A h ∧ RMc A h ∧ RMt A h ∧ RMr A h ∧ RMch A h ∧ hI h 98 57 = -1 ∧ hI h 98 60 = -1 ∧ hI h 98 61 = -1
