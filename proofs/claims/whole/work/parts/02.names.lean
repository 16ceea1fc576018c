/-! names: the classes, their fields in order, their types (by program) -/
def F_0 : u_T := fun k => match k with
  | 0 => ("SealedBonds", "bonds", "LSealedBonds$Bonds;", true)
  | 1 => ("SealedBonds", "people", "LSealedBonds$People;", true)
  | 2 => ("SealedBonds", "couples", "LSealedBonds$Couples;", true)
  | 3 => ("SealedBonds", "desks", "[LSealedBonds$Desk;", true)
  | 4 => ("SealedBonds", "matchings", "LSealedBonds$Matchings;", true)
  | 5 => ("SealedBonds", "walk", "LSealedBonds$Walk;", true)
  | 6 => ("SealedBonds", "standing", "LSealedBonds$Standing;", true)
  | 7 => ("SealedBonds", "offers", "LSealedBonds$Offers;", true)
  | 8 => ("SealedBonds", "text", "LSealedBonds$Text;", true)
  | 9 => ("SealedBonds", "told", "LSealedBonds$Row;", true)
  | 10 => ("SealedBonds", "spare", "LSealedBonds$Choice;", false)
  | _ => ("SealedBonds", "offices", "I", false)
def t_0 : Nat → FieldType := fun k => match k with
  | 0 => .object "SealedBonds$Bonds"
  | 1 => .object "SealedBonds$People"
  | 2 => .object "SealedBonds$Couples"
  | 3 => .array (.object "SealedBonds$Desk")
  | 4 => .object "SealedBonds$Matchings"
  | 5 => .object "SealedBonds$Walk"
  | 6 => .object "SealedBonds$Standing"
  | 7 => .object "SealedBonds$Offers"
  | 8 => .object "SealedBonds$Text"
  | 9 => .object "SealedBonds$Row"
  | 10 => .object "SealedBonds$Choice"
  | _ => .int
def F_1 : u_T := fun k => match k with
  | 0 => ("SealedBonds$Bonds", "size", "I", false)
  | 1 => ("SealedBonds$Bonds", "owner", "[I", true)
  | 2 => ("SealedBonds$Bonds", "desk", "[I", true)
  | 3 => ("SealedBonds$Bonds", "pay", "[I", true)
  | 4 => ("SealedBonds$Bonds", "years", "[I", true)
  | 5 => ("SealedBonds$Bonds", "town", "[I", true)
  | 6 => ("SealedBonds$Bonds", "slot", "[I", true)
  | 7 => ("SealedBonds$Bonds", "bondAt", "[I", true)
  | 8 => ("SealedBonds$Bonds", "ofOffice", "[I", true)
  | 9 => ("SealedBonds$Bonds", "ofPerson", "[I", true)
  | 10 => ("SealedBonds$Bonds", "bondsOfPerson", "[I", true)
  | 11 => ("SealedBonds$Bonds", "setOfPerson", "[I", true)
  | _ => ("SealedBonds$Bonds", "slotsOfPerson", "[I", true)
def t_1 : Nat → FieldType := fun k => match k with
  | 0 => .int
  | 1 => .array (.int)
  | 2 => .array (.int)
  | 3 => .array (.int)
  | 4 => .array (.int)
  | 5 => .array (.int)
  | 6 => .array (.int)
  | 7 => .array (.int)
  | 8 => .array (.int)
  | 9 => .array (.int)
  | 10 => .array (.int)
  | 11 => .array (.int)
  | _ => .array (.int)
def F_2 : u_T := fun k => match k with
  | 0 => ("SealedBonds$Choice", "told", "Z", false)
  | 1 => ("SealedBonds$Choice", "most", "I", false)
  | 2 => ("SealedBonds$Choice", "dearest", "I", false)
  | 3 => ("SealedBonds$Choice", "keyCount", "I", false)
  | 4 => ("SealedBonds$Choice", "keyLetters", "[I", true)
  | 5 => ("SealedBonds$Choice", "keyWays", "[I", true)
  | 6 => ("SealedBonds$Choice", "kept", "[I", true)
  | 7 => ("SealedBonds$Choice", "together", "[I", true)
  | _ => ("SealedBonds$Choice", "never", "[I", true)
def t_2 : Nat → FieldType := fun k => match k with
  | 0 => .boolean
  | 1 => .int
  | 2 => .int
  | 3 => .int
  | 4 => .array (.int)
  | 5 => .array (.int)
  | 6 => .array (.int)
  | 7 => .array (.int)
  | _ => .array (.int)
def F_3 : u_T := fun k => match k with
  | 0 => ("SealedBonds$Couples", "size", "I", false)
  | 1 => ("SealedBonds$Couples", "first", "[I", true)
  | 2 => ("SealedBonds$Couples", "second", "[I", true)
  | 3 => ("SealedBonds$Couples", "pairs", "[I", true)
  | 4 => ("SealedBonds$Couples", "pairSet", "[I", true)
  | _ => ("SealedBonds$Couples", "pairSlots", "[I", true)
def t_3 : Nat → FieldType := fun k => match k with
  | 0 => .int
  | 1 => .array (.int)
  | 2 => .array (.int)
  | 3 => .array (.int)
  | 4 => .array (.int)
  | _ => .array (.int)
def F_4 : u_T := fun k => match k with
  | 0 => ("SealedBonds$Desk", "number", "I", true)
  | 1 => ("SealedBonds$Desk", "bonds", "LSealedBonds$Bonds;", true)
  | 2 => ("SealedBonds$Desk", "people", "LSealedBonds$People;", true)
  | 3 => ("SealedBonds$Desk", "choice", "LSealedBonds$Choice;", false)
  | 4 => ("SealedBonds$Desk", "table", "[I", true)
  | 5 => ("SealedBonds$Desk", "weight", "[I", true)
  | 6 => ("SealedBonds$Desk", "place", "[I", true)
  | 7 => ("SealedBonds$Desk", "ordered", "Z", false)
  | _ => ("SealedBonds$Desk", "built", "I", false)
def t_4 : Nat → FieldType := fun k => match k with
  | 0 => .int
  | 1 => .object "SealedBonds$Bonds"
  | 2 => .object "SealedBonds$People"
  | 3 => .object "SealedBonds$Choice"
  | 4 => .array (.int)
  | 5 => .array (.int)
  | 6 => .array (.int)
  | 7 => .boolean
  | _ => .int
def F_5 : u_T := fun k => match k with
  | 0 => ("SealedBonds$Matchings", "bonds", "LSealedBonds$Bonds;", true)
  | 1 => ("SealedBonds$Matchings", "people", "LSealedBonds$People;", true)
  | 2 => ("SealedBonds$Matchings", "couples", "LSealedBonds$Couples;", true)
  | 3 => ("SealedBonds$Matchings", "desks", "[LSealedBonds$Desk;", true)
  | _ => ("SealedBonds$Matchings", "more", "[I", true)
def t_5 : Nat → FieldType := fun k => match k with
  | 0 => .object "SealedBonds$Bonds"
  | 1 => .object "SealedBonds$People"
  | 2 => .object "SealedBonds$Couples"
  | 3 => .array (.object "SealedBonds$Desk")
  | _ => .array (.int)
def F_6 : u_T := fun k => match k with
  | 0 => ("SealedBonds$Offers", "bonds", "LSealedBonds$Bonds;", true)
  | 1 => ("SealedBonds$Offers", "people", "LSealedBonds$People;", true)
  | 2 => ("SealedBonds$Offers", "desks", "[LSealedBonds$Desk;", true)
  | 3 => ("SealedBonds$Offers", "lists", "[I", true)
  | 4 => ("SealedBonds$Offers", "listed", "[I", true)
  | 5 => ("SealedBonds$Offers", "made", "[I", true)
  | 6 => ("SealedBonds$Offers", "rounds", "I", false)
  | 7 => ("SealedBonds$Offers", "offered", "I", false)
  | _ => ("SealedBonds$Offers", "held", "I", false)
def t_6 : Nat → FieldType := fun k => match k with
  | 0 => .object "SealedBonds$Bonds"
  | 1 => .object "SealedBonds$People"
  | 2 => .array (.object "SealedBonds$Desk")
  | 3 => .array (.int)
  | 4 => .array (.int)
  | 5 => .array (.int)
  | 6 => .int
  | 7 => .int
  | _ => .int
def F_7 : u_T := fun k => match k with
  | 0 => ("SealedBonds$People", "size", "I", false)
  | 1 => ("SealedBonds$People", "kind", "[I", true)
  | 2 => ("SealedBonds$People", "ofKind", "[I", true)
  | 3 => ("SealedBonds$People", "coupleOf", "[I", true)
  | 4 => ("SealedBonds$People", "lists", "[I", true)
  | 5 => ("SealedBonds$People", "listed", "[I", true)
  | 6 => ("SealedBonds$People", "listSlots", "[I", true)
  | 7 => ("SealedBonds$People", "place", "[I", true)
  | _ => ("SealedBonds$People", "aheadSlots", "[I", true)
def t_7 : Nat → FieldType := fun k => match k with
  | 0 => .int
  | 1 => .array (.int)
  | 2 => .array (.int)
  | 3 => .array (.int)
  | 4 => .array (.int)
  | 5 => .array (.int)
  | 6 => .array (.int)
  | 7 => .array (.int)
  | _ => .array (.int)
def F_8 : u_T := fun k => match k with
  | 0 => ("SealedBonds$Row", "numbers", "[I", true)
  | _ => ("SealedBonds$Row", "size", "I", false)
def t_8 : Nat → FieldType := fun k => match k with
  | 0 => .array (.int)
  | _ => .int
def F_9 : u_T := fun k => match k with
  | 0 => ("SealedBonds$Standing", "people", "LSealedBonds$People;", true)
  | 1 => ("SealedBonds$Standing", "couples", "LSealedBonds$Couples;", true)
  | 2 => ("SealedBonds$Standing", "matchings", "LSealedBonds$Matchings;", true)
  | 3 => ("SealedBonds$Standing", "walk", "LSealedBonds$Walk;", true)
  | 4 => ("SealedBonds$Standing", "known", "Z", false)
  | 5 => ("SealedBonds$Standing", "ranked", "Z", false)
  | 6 => ("SealedBonds$Standing", "sets", "[I", false)
  | 7 => ("SealedBonds$Standing", "size", "I", false)
  | 8 => ("SealedBonds$Standing", "ranks", "[J", false)
  | 9 => ("SealedBonds$Standing", "sorted", "[I", false)
  | 10 => ("SealedBonds$Standing", "distances", "[I", false)
  | 11 => ("SealedBonds$Standing", "queue", "[I", false)
  | 12 => ("SealedBonds$Standing", "covers", "[I", false)
  | 13 => ("SealedBonds$Standing", "queued", "I", false)
  | _ => ("SealedBonds$Standing", "tally", "[I", true)
def t_9 : Nat → FieldType := fun k => match k with
  | 0 => .object "SealedBonds$People"
  | 1 => .object "SealedBonds$Couples"
  | 2 => .object "SealedBonds$Matchings"
  | 3 => .object "SealedBonds$Walk"
  | 4 => .boolean
  | 5 => .boolean
  | 6 => .array (.int)
  | 7 => .int
  | 8 => .array (.long)
  | 9 => .array (.int)
  | 10 => .array (.int)
  | 11 => .array (.int)
  | 12 => .array (.int)
  | 13 => .int
  | _ => .array (.int)
def F_10 : u_T := fun k => match k with
  | 0 => ("SealedBonds$Text", "signs", "[C", true)
  | 1 => ("SealedBonds$Text", "size", "I", false)
  | 2 => ("SealedBonds$Text", "at", "I", false)
  | _ => ("SealedBonds$Text", "choice", "LSealedBonds$Choice;", false)
def t_10 : Nat → FieldType := fun k => match k with
  | 0 => .array (.char)
  | 1 => .int
  | 2 => .int
  | _ => .object "SealedBonds$Choice"
def F_11 : u_T := fun k => match k with
  | 0 => ("SealedBonds$Walk", "bonds", "LSealedBonds$Bonds;", true)
  | 1 => ("SealedBonds$Walk", "people", "LSealedBonds$People;", true)
  | 2 => ("SealedBonds$Walk", "couples", "LSealedBonds$Couples;", true)
  | 3 => ("SealedBonds$Walk", "matchings", "LSealedBonds$Matchings;", true)
  | 4 => ("SealedBonds$Walk", "live", "[I", true)
  | 5 => ("SealedBonds$Walk", "change", "[I", true)
  | 6 => ("SealedBonds$Walk", "liveCount", "I", false)
  | 7 => ("SealedBonds$Walk", "goal", "I", false)
  | 8 => ("SealedBonds$Walk", "wantedAtFirst", "I", false)
  | 9 => ("SealedBonds$Walk", "fewest", "I", false)
  | 10 => ("SealedBonds$Walk", "nearest", "I", false)
  | 11 => ("SealedBonds$Walk", "found", "[I", false)
  | _ => ("SealedBonds$Walk", "foundCount", "I", false)
def t_11 : Nat → FieldType := fun k => match k with
  | 0 => .object "SealedBonds$Bonds"
  | 1 => .object "SealedBonds$People"
  | 2 => .object "SealedBonds$Couples"
  | 3 => .object "SealedBonds$Matchings"
  | 4 => .array (.int)
  | 5 => .array (.int)
  | 6 => .int
  | 7 => .int
  | 8 => .int
  | 9 => .int
  | 10 => .int
  | 11 => .array (.int)
  | _ => .int
def F_12 : u_T := fun k => match k with
  | 0 => ("SealedBondsModel", "people", "I", false)
  | 1 => ("SealedBondsModel", "kind", "[I", true)
  | 2 => ("SealedBondsModel", "offices", "I", false)
  | 3 => ("SealedBondsModel", "bonds", "I", false)
  | 4 => ("SealedBondsModel", "person", "[I", true)
  | 5 => ("SealedBondsModel", "office", "[I", true)
  | 6 => ("SealedBondsModel", "pay", "[I", true)
  | 7 => ("SealedBondsModel", "years", "[I", true)
  | 8 => ("SealedBondsModel", "town", "[I", true)
  | 9 => ("SealedBondsModel", "listed", "[I", true)
  | 10 => ("SealedBondsModel", "listMany", "[I", true)
  | 11 => ("SealedBondsModel", "couples", "I", false)
  | 12 => ("SealedBondsModel", "coupleOne", "[I", true)
  | 13 => ("SealedBondsModel", "coupleTwo", "[I", true)
  | 14 => ("SealedBondsModel", "pairOne", "[I", true)
  | 15 => ("SealedBondsModel", "pairTwo", "[I", true)
  | 16 => ("SealedBondsModel", "pairMany", "[I", true)
  | 17 => ("SealedBondsModel", "isTold", "[Z", true)
  | 18 => ("SealedBondsModel", "most", "[I", true)
  | 19 => ("SealedBondsModel", "money", "[I", true)
  | 20 => ("SealedBondsModel", "keys", "[I", true)
  | 21 => ("SealedBondsModel", "keyMany", "[I", true)
  | 22 => ("SealedBondsModel", "keepKind", "[I", true)
  | 23 => ("SealedBondsModel", "keepMany", "[I", true)
  | 24 => ("SealedBondsModel", "keeps", "[I", true)
  | 25 => ("SealedBondsModel", "both", "[I", true)
  | 26 => ("SealedBondsModel", "boths", "[I", true)
  | 27 => ("SealedBondsModel", "never", "[I", true)
  | 28 => ("SealedBondsModel", "nevers", "[I", true)
  | 29 => ("SealedBondsModel", "text", "[B", true)
  | 30 => ("SealedBondsModel", "typed", "I", false)
  | 31 => ("SealedBondsModel", "row", "[I", true)
  | 32 => ("SealedBondsModel", "rowMany", "I", false)
  | 33 => ("SealedBondsModel", "thrown", "I", false)
  | 34 => ("SealedBondsModel", "ordered", "[I", true)
  | 35 => ("SealedBondsModel", "own", "[I", true)
  | 36 => ("SealedBondsModel", "takes", "[I", true)
  | 37 => ("SealedBondsModel", "isMade", "Z", false)
  | 38 => ("SealedBondsModel", "size", "I", false)
  | 39 => ("SealedBondsModel", "at", "I", false)
  | 40 => ("SealedBondsModel", "newMost", "I", false)
  | 41 => ("SealedBondsModel", "newMoney", "I", false)
  | 42 => ("SealedBondsModel", "newKeys", "[I", true)
  | 43 => ("SealedBondsModel", "newKeyMany", "I", false)
  | 44 => ("SealedBondsModel", "newKeepKind", "[I", true)
  | 45 => ("SealedBondsModel", "newKeepMany", "[I", true)
  | 46 => ("SealedBondsModel", "newKeeps", "I", false)
  | 47 => ("SealedBondsModel", "newBoth", "[I", true)
  | 48 => ("SealedBondsModel", "newBoths", "I", false)
  | 49 => ("SealedBondsModel", "newNever", "[I", true)
  | 50 => ("SealedBondsModel", "newNevers", "I", false)
  | 51 => ("SealedBondsModel", "allowed", "[Z", true)
  | 52 => ("SealedBondsModel", "foundOne", "I", false)
  | 53 => ("SealedBondsModel", "foundTwo", "I", false)
  | 54 => ("SealedBondsModel", "rounds", "I", false)
  | 55 => ("SealedBondsModel", "offeredMany", "I", false)
  | 56 => ("SealedBondsModel", "next", "[I", true)
  | 57 => ("SealedBondsModel", "liar", "I", false)
  | 58 => ("SealedBondsModel", "lies", "[I", true)
  | 59 => ("SealedBondsModel", "lieMany", "I", false)
  | 60 => ("SealedBondsModel", "silent", "I", false)
  | 61 => ("SealedBondsModel", "missing", "I", false)
  | 62 => ("SealedBondsModel", "stands", "[I", true)
  | 63 => ("SealedBondsModel", "standMany", "I", false)
  | 64 => ("SealedBondsModel", "isOne", "Z", false)
  | 65 => ("SealedBondsModel", "far", "[I", true)
  | 66 => ("SealedBondsModel", "queue", "[I", true)
  | 67 => ("SealedBondsModel", "nearest", "I", false)
  | 68 => ("SealedBondsModel", "nearSet", "I", false)
  | 69 => ("SealedBondsModel", "more", "[I", true)
  | _ => ("SealedBondsModel", "honest", "I", false)
def t_12 : Nat → FieldType := fun k => match k with
  | 0 => .int
  | 1 => .array (.int)
  | 2 => .int
  | 3 => .int
  | 4 => .array (.int)
  | 5 => .array (.int)
  | 6 => .array (.int)
  | 7 => .array (.int)
  | 8 => .array (.int)
  | 9 => .array (.int)
  | 10 => .array (.int)
  | 11 => .int
  | 12 => .array (.int)
  | 13 => .array (.int)
  | 14 => .array (.int)
  | 15 => .array (.int)
  | 16 => .array (.int)
  | 17 => .array (.boolean)
  | 18 => .array (.int)
  | 19 => .array (.int)
  | 20 => .array (.int)
  | 21 => .array (.int)
  | 22 => .array (.int)
  | 23 => .array (.int)
  | 24 => .array (.int)
  | 25 => .array (.int)
  | 26 => .array (.int)
  | 27 => .array (.int)
  | 28 => .array (.int)
  | 29 => .array (.byte)
  | 30 => .int
  | 31 => .array (.int)
  | 32 => .int
  | 33 => .int
  | 34 => .array (.int)
  | 35 => .array (.int)
  | 36 => .array (.int)
  | 37 => .boolean
  | 38 => .int
  | 39 => .int
  | 40 => .int
  | 41 => .int
  | 42 => .array (.int)
  | 43 => .int
  | 44 => .array (.int)
  | 45 => .array (.int)
  | 46 => .int
  | 47 => .array (.int)
  | 48 => .int
  | 49 => .array (.int)
  | 50 => .int
  | 51 => .array (.boolean)
  | 52 => .int
  | 53 => .int
  | 54 => .int
  | 55 => .int
  | 56 => .array (.int)
  | 57 => .int
  | 58 => .array (.int)
  | 59 => .int
  | 60 => .int
  | 61 => .int
  | 62 => .array (.int)
  | 63 => .int
  | 64 => .boolean
  | 65 => .array (.int)
  | 66 => .array (.int)
  | 67 => .int
  | 68 => .int
  | 69 => .array (.int)
  | _ => .int
def kc : Nat → vw_C := fun ci => match ci with
  | 0 => ("SealedBonds", F_0, 12)
  | 1 => ("SealedBonds$Bonds", F_1, 13)
  | 2 => ("SealedBonds$Choice", F_2, 9)
  | 3 => ("SealedBonds$Couples", F_3, 6)
  | 4 => ("SealedBonds$Desk", F_4, 9)
  | 5 => ("SealedBonds$Matchings", F_5, 5)
  | 6 => ("SealedBonds$Offers", F_6, 9)
  | 7 => ("SealedBonds$People", F_7, 9)
  | 8 => ("SealedBonds$Row", F_8, 2)
  | 9 => ("SealedBonds$Standing", F_9, 15)
  | 10 => ("SealedBonds$Text", F_10, 4)
  | 11 => ("SealedBonds$Walk", F_11, 13)
  | _ => ("SealedBondsModel", F_12, 71)
def kty : Nat → Nat → FieldType := fun ci => match ci with
  | 0 => t_0
  | 1 => t_1
  | 2 => t_2
  | 3 => t_3
  | 4 => t_4
  | 5 => t_5
  | 6 => t_6
  | 7 => t_7
  | 8 => t_8
  | 9 => t_9
  | 10 => t_10
  | 11 => t_11
  | _ => t_12
def kcl : List vw_C := [kc 0, kc 1, kc 2, kc 3, kc 4, kc 5, kc 6, kc 7, kc 8, kc 9, kc 10, kc 11, kc 12]
def jtbl : List Cond := lw_tbl.filter goodWord
theorem j_mem {w : Cond} (i : Nat) (h : (lw_tbl[i]? == some w && goodWord w) = true) : w ∈ jtbl := by
  simp only [Bool.and_eq_true, beq_iff_eq] at h
  exact List.mem_filter.mpr ⟨List.mem_of_getElem? h.1, h.2⟩
theorem k_in_0 : ∀ w ∈ u_ws (kc 0).1 (kc 0).2.1 (kc 0).2.2, w ∈ jtbl := fun w hw => List.mem_filter.mpr ⟨(by decide +kernel : ∀ w ∈ u_ws (kc 0).1 (kc 0).2.1 (kc 0).2.2, w ∈ lw_tbl) w hw, List.all_eq_true.mp (by decide +kernel : (u_ws (kc 0).1 (kc 0).2.1 (kc 0).2.2).all goodWord = true) w hw⟩
theorem k_ty_0 : ∀ k, k < (kc 0).2.2 → parseFieldDescriptor ((kc 0).2.1 k).2.2.1 = some (kty 0 k) := by decide +kernel
theorem k_nm_0 : ∀ a, a < (kc 0).2.2 → ∀ b, b < (kc 0).2.2 → a ≠ b → ((kc 0).2.1 a).2.1 ≠ ((kc 0).2.1 b).2.1 := by decide +kernel
theorem k_in_1 : ∀ w ∈ u_ws (kc 1).1 (kc 1).2.1 (kc 1).2.2, w ∈ jtbl := fun w hw => List.mem_filter.mpr ⟨(by decide +kernel : ∀ w ∈ u_ws (kc 1).1 (kc 1).2.1 (kc 1).2.2, w ∈ lw_tbl) w hw, List.all_eq_true.mp (by decide +kernel : (u_ws (kc 1).1 (kc 1).2.1 (kc 1).2.2).all goodWord = true) w hw⟩
theorem k_ty_1 : ∀ k, k < (kc 1).2.2 → parseFieldDescriptor ((kc 1).2.1 k).2.2.1 = some (kty 1 k) := by decide +kernel
theorem k_nm_1 : ∀ a, a < (kc 1).2.2 → ∀ b, b < (kc 1).2.2 → a ≠ b → ((kc 1).2.1 a).2.1 ≠ ((kc 1).2.1 b).2.1 := by decide +kernel
theorem k_in_2 : ∀ w ∈ u_ws (kc 2).1 (kc 2).2.1 (kc 2).2.2, w ∈ jtbl := fun w hw => List.mem_filter.mpr ⟨(by decide +kernel : ∀ w ∈ u_ws (kc 2).1 (kc 2).2.1 (kc 2).2.2, w ∈ lw_tbl) w hw, List.all_eq_true.mp (by decide +kernel : (u_ws (kc 2).1 (kc 2).2.1 (kc 2).2.2).all goodWord = true) w hw⟩
theorem k_ty_2 : ∀ k, k < (kc 2).2.2 → parseFieldDescriptor ((kc 2).2.1 k).2.2.1 = some (kty 2 k) := by decide +kernel
theorem k_nm_2 : ∀ a, a < (kc 2).2.2 → ∀ b, b < (kc 2).2.2 → a ≠ b → ((kc 2).2.1 a).2.1 ≠ ((kc 2).2.1 b).2.1 := by decide +kernel
theorem k_in_3 : ∀ w ∈ u_ws (kc 3).1 (kc 3).2.1 (kc 3).2.2, w ∈ jtbl := fun w hw => List.mem_filter.mpr ⟨(by decide +kernel : ∀ w ∈ u_ws (kc 3).1 (kc 3).2.1 (kc 3).2.2, w ∈ lw_tbl) w hw, List.all_eq_true.mp (by decide +kernel : (u_ws (kc 3).1 (kc 3).2.1 (kc 3).2.2).all goodWord = true) w hw⟩
theorem k_ty_3 : ∀ k, k < (kc 3).2.2 → parseFieldDescriptor ((kc 3).2.1 k).2.2.1 = some (kty 3 k) := by decide +kernel
theorem k_nm_3 : ∀ a, a < (kc 3).2.2 → ∀ b, b < (kc 3).2.2 → a ≠ b → ((kc 3).2.1 a).2.1 ≠ ((kc 3).2.1 b).2.1 := by decide +kernel
theorem k_in_4 : ∀ w ∈ u_ws (kc 4).1 (kc 4).2.1 (kc 4).2.2, w ∈ jtbl := fun w hw => List.mem_filter.mpr ⟨(by decide +kernel : ∀ w ∈ u_ws (kc 4).1 (kc 4).2.1 (kc 4).2.2, w ∈ lw_tbl) w hw, List.all_eq_true.mp (by decide +kernel : (u_ws (kc 4).1 (kc 4).2.1 (kc 4).2.2).all goodWord = true) w hw⟩
theorem k_ty_4 : ∀ k, k < (kc 4).2.2 → parseFieldDescriptor ((kc 4).2.1 k).2.2.1 = some (kty 4 k) := by decide +kernel
theorem k_nm_4 : ∀ a, a < (kc 4).2.2 → ∀ b, b < (kc 4).2.2 → a ≠ b → ((kc 4).2.1 a).2.1 ≠ ((kc 4).2.1 b).2.1 := by decide +kernel
theorem k_in_5 : ∀ w ∈ u_ws (kc 5).1 (kc 5).2.1 (kc 5).2.2, w ∈ jtbl := fun w hw => List.mem_filter.mpr ⟨(by decide +kernel : ∀ w ∈ u_ws (kc 5).1 (kc 5).2.1 (kc 5).2.2, w ∈ lw_tbl) w hw, List.all_eq_true.mp (by decide +kernel : (u_ws (kc 5).1 (kc 5).2.1 (kc 5).2.2).all goodWord = true) w hw⟩
theorem k_ty_5 : ∀ k, k < (kc 5).2.2 → parseFieldDescriptor ((kc 5).2.1 k).2.2.1 = some (kty 5 k) := by decide +kernel
theorem k_nm_5 : ∀ a, a < (kc 5).2.2 → ∀ b, b < (kc 5).2.2 → a ≠ b → ((kc 5).2.1 a).2.1 ≠ ((kc 5).2.1 b).2.1 := by decide +kernel
theorem k_in_6 : ∀ w ∈ u_ws (kc 6).1 (kc 6).2.1 (kc 6).2.2, w ∈ jtbl := fun w hw => List.mem_filter.mpr ⟨(by decide +kernel : ∀ w ∈ u_ws (kc 6).1 (kc 6).2.1 (kc 6).2.2, w ∈ lw_tbl) w hw, List.all_eq_true.mp (by decide +kernel : (u_ws (kc 6).1 (kc 6).2.1 (kc 6).2.2).all goodWord = true) w hw⟩
theorem k_ty_6 : ∀ k, k < (kc 6).2.2 → parseFieldDescriptor ((kc 6).2.1 k).2.2.1 = some (kty 6 k) := by decide +kernel
theorem k_nm_6 : ∀ a, a < (kc 6).2.2 → ∀ b, b < (kc 6).2.2 → a ≠ b → ((kc 6).2.1 a).2.1 ≠ ((kc 6).2.1 b).2.1 := by decide +kernel
theorem k_in_7 : ∀ w ∈ u_ws (kc 7).1 (kc 7).2.1 (kc 7).2.2, w ∈ jtbl := fun w hw => List.mem_filter.mpr ⟨(by decide +kernel : ∀ w ∈ u_ws (kc 7).1 (kc 7).2.1 (kc 7).2.2, w ∈ lw_tbl) w hw, List.all_eq_true.mp (by decide +kernel : (u_ws (kc 7).1 (kc 7).2.1 (kc 7).2.2).all goodWord = true) w hw⟩
theorem k_ty_7 : ∀ k, k < (kc 7).2.2 → parseFieldDescriptor ((kc 7).2.1 k).2.2.1 = some (kty 7 k) := by decide +kernel
theorem k_nm_7 : ∀ a, a < (kc 7).2.2 → ∀ b, b < (kc 7).2.2 → a ≠ b → ((kc 7).2.1 a).2.1 ≠ ((kc 7).2.1 b).2.1 := by decide +kernel
theorem k_in_8 : ∀ w ∈ u_ws (kc 8).1 (kc 8).2.1 (kc 8).2.2, w ∈ jtbl := fun w hw => List.mem_filter.mpr ⟨(by decide +kernel : ∀ w ∈ u_ws (kc 8).1 (kc 8).2.1 (kc 8).2.2, w ∈ lw_tbl) w hw, List.all_eq_true.mp (by decide +kernel : (u_ws (kc 8).1 (kc 8).2.1 (kc 8).2.2).all goodWord = true) w hw⟩
theorem k_ty_8 : ∀ k, k < (kc 8).2.2 → parseFieldDescriptor ((kc 8).2.1 k).2.2.1 = some (kty 8 k) := by decide +kernel
theorem k_nm_8 : ∀ a, a < (kc 8).2.2 → ∀ b, b < (kc 8).2.2 → a ≠ b → ((kc 8).2.1 a).2.1 ≠ ((kc 8).2.1 b).2.1 := by decide +kernel
theorem k_in_9 : ∀ w ∈ u_ws (kc 9).1 (kc 9).2.1 (kc 9).2.2, w ∈ jtbl := fun w hw => List.mem_filter.mpr ⟨(by decide +kernel : ∀ w ∈ u_ws (kc 9).1 (kc 9).2.1 (kc 9).2.2, w ∈ lw_tbl) w hw, List.all_eq_true.mp (by decide +kernel : (u_ws (kc 9).1 (kc 9).2.1 (kc 9).2.2).all goodWord = true) w hw⟩
theorem k_ty_9 : ∀ k, k < (kc 9).2.2 → parseFieldDescriptor ((kc 9).2.1 k).2.2.1 = some (kty 9 k) := by decide +kernel
theorem k_nm_9 : ∀ a, a < (kc 9).2.2 → ∀ b, b < (kc 9).2.2 → a ≠ b → ((kc 9).2.1 a).2.1 ≠ ((kc 9).2.1 b).2.1 := by decide +kernel
theorem k_in_10 : ∀ w ∈ u_ws (kc 10).1 (kc 10).2.1 (kc 10).2.2, w ∈ jtbl := fun w hw => List.mem_filter.mpr ⟨(by decide +kernel : ∀ w ∈ u_ws (kc 10).1 (kc 10).2.1 (kc 10).2.2, w ∈ lw_tbl) w hw, List.all_eq_true.mp (by decide +kernel : (u_ws (kc 10).1 (kc 10).2.1 (kc 10).2.2).all goodWord = true) w hw⟩
theorem k_ty_10 : ∀ k, k < (kc 10).2.2 → parseFieldDescriptor ((kc 10).2.1 k).2.2.1 = some (kty 10 k) := by decide +kernel
theorem k_nm_10 : ∀ a, a < (kc 10).2.2 → ∀ b, b < (kc 10).2.2 → a ≠ b → ((kc 10).2.1 a).2.1 ≠ ((kc 10).2.1 b).2.1 := by decide +kernel
theorem k_in_11 : ∀ w ∈ u_ws (kc 11).1 (kc 11).2.1 (kc 11).2.2, w ∈ jtbl := fun w hw => List.mem_filter.mpr ⟨(by decide +kernel : ∀ w ∈ u_ws (kc 11).1 (kc 11).2.1 (kc 11).2.2, w ∈ lw_tbl) w hw, List.all_eq_true.mp (by decide +kernel : (u_ws (kc 11).1 (kc 11).2.1 (kc 11).2.2).all goodWord = true) w hw⟩
theorem k_ty_11 : ∀ k, k < (kc 11).2.2 → parseFieldDescriptor ((kc 11).2.1 k).2.2.1 = some (kty 11 k) := by decide +kernel
theorem k_nm_11 : ∀ a, a < (kc 11).2.2 → ∀ b, b < (kc 11).2.2 → a ≠ b → ((kc 11).2.1 a).2.1 ≠ ((kc 11).2.1 b).2.1 := by decide +kernel
theorem k_in_12 : ∀ w ∈ u_ws (kc 12).1 (kc 12).2.1 (kc 12).2.2, w ∈ jtbl := fun w hw => List.mem_filter.mpr ⟨(by decide +kernel : ∀ w ∈ u_ws (kc 12).1 (kc 12).2.1 (kc 12).2.2, w ∈ lw_tbl) w hw, List.all_eq_true.mp (by decide +kernel : (u_ws (kc 12).1 (kc 12).2.1 (kc 12).2.2).all goodWord = true) w hw⟩
theorem k_ty_12 : ∀ k, k < (kc 12).2.2 → parseFieldDescriptor ((kc 12).2.1 k).2.2.1 = some (kty 12 k) := by decide +kernel
theorem k_nm_12 : ∀ a, a < (kc 12).2.2 → ∀ b, b < (kc 12).2.2 → a ≠ b → ((kc 12).2.1 a).2.1 ≠ ((kc 12).2.1 b).2.1 := by decide +kernel
theorem k_in (ci : Nat) (h : ci < 13) : ∀ w ∈ u_ws (kc ci).1 (kc ci).2.1 (kc ci).2.2, w ∈ jtbl := by
  match ci, h with
  | 0, _ => exact k_in_0
  | 1, _ => exact k_in_1
  | 2, _ => exact k_in_2
  | 3, _ => exact k_in_3
  | 4, _ => exact k_in_4
  | 5, _ => exact k_in_5
  | 6, _ => exact k_in_6
  | 7, _ => exact k_in_7
  | 8, _ => exact k_in_8
  | 9, _ => exact k_in_9
  | 10, _ => exact k_in_10
  | 11, _ => exact k_in_11
  | 12, _ => exact k_in_12
  | ci + 13, h => exact absurd h (by omega)
theorem k_ty (ci : Nat) (h : ci < 13) : ∀ k, k < (kc ci).2.2 → parseFieldDescriptor ((kc ci).2.1 k).2.2.1 = some (kty ci k) := by
  match ci, h with
  | 0, _ => exact k_ty_0
  | 1, _ => exact k_ty_1
  | 2, _ => exact k_ty_2
  | 3, _ => exact k_ty_3
  | 4, _ => exact k_ty_4
  | 5, _ => exact k_ty_5
  | 6, _ => exact k_ty_6
  | 7, _ => exact k_ty_7
  | 8, _ => exact k_ty_8
  | 9, _ => exact k_ty_9
  | 10, _ => exact k_ty_10
  | 11, _ => exact k_ty_11
  | 12, _ => exact k_ty_12
  | ci + 13, h => exact absurd h (by omega)
theorem k_nm (ci : Nat) (h : ci < 13) : ∀ a, a < (kc ci).2.2 → ∀ b, b < (kc ci).2.2 → a ≠ b → ((kc ci).2.1 a).2.1 ≠ ((kc ci).2.1 b).2.1 := by
  match ci, h with
  | 0, _ => exact k_nm_0
  | 1, _ => exact k_nm_1
  | 2, _ => exact k_nm_2
  | 3, _ => exact k_nm_3
  | 4, _ => exact k_nm_4
  | 5, _ => exact k_nm_5
  | 6, _ => exact k_nm_6
  | 7, _ => exact k_nm_7
  | 8, _ => exact k_nm_8
  | 9, _ => exact k_nm_9
  | 10, _ => exact k_nm_10
  | 11, _ => exact k_nm_11
  | 12, _ => exact k_nm_12
  | ci + 13, h => exact absurd h (by omega)
theorem k_at (ci : Nat) (h : ci < 13) : kcl[ci]? = some (kc ci) := by
  match ci, h with
  | 0, _ => rfl
  | 1, _ => rfl
  | 2, _ => rfl
  | 3, _ => rfl
  | 4, _ => rfl
  | 5, _ => rfl
  | 6, _ => rfl
  | 7, _ => rfl
  | 8, _ => rfl
  | 9, _ => rfl
  | 10, _ => rfl
  | 11, _ => rfl
  | 12, _ => rfl
  | ci + 13, h => exact absurd h (by omega)
def jnest : List Cond := [(Jvm.Cond.methodLinkNest "SealedBonds" (9 : Nat) ({ cls := "SealedBonds$Bonds", name := "<init>", desc := "()V" } : Jvm.MethodName) "SealedBonds"), (Jvm.Cond.methodLinkNest "SealedBonds" (25 : Nat) ({ cls := "SealedBonds$Couples", name := "<init>", desc := "()V" } : Jvm.MethodName) "SealedBonds"), (Jvm.Cond.methodLinkNest "SealedBonds$Desk" (9 : Nat) ({ cls := "SealedBonds$Choice", name := "<init>", desc := "()V" } : Jvm.MethodName) "SealedBonds"), (Jvm.Cond.methodLinkNest "SealedBonds" (77 : Nat) ({ cls := "SealedBonds$Text", name := "<init>", desc := "()V" } : Jvm.MethodName) "SealedBonds"), (Jvm.Cond.methodLinkNest "SealedBonds" (84 : Nat) ({ cls := "SealedBonds$Row", name := "<init>", desc := "()V" } : Jvm.MethodName) "SealedBonds"), (Jvm.Cond.methodLinkNest "SealedBonds" (91 : Nat) ({ cls := "SealedBonds$Choice", name := "<init>", desc := "()V" } : Jvm.MethodName) "SealedBonds"), (Jvm.Cond.methodLinkNest "SealedBonds$Standing" (72 : Nat) ({ cls := "SealedBonds$Walk", name := "step", desc := "(IIIII)Z" } : Jvm.MethodName) "SealedBonds"), (Jvm.Cond.methodLinkNest "SealedBonds" (302 : Nat) ({ cls := "SealedBonds$Walk", name := "step", desc := "(IIIII)Z" } : Jvm.MethodName) "SealedBonds"), (Jvm.Cond.methodLinkNest "SealedBonds" (324 : Nat) ({ cls := "SealedBonds$Offers", name := "gainsByLie", desc := "(IIIII)Z" } : Jvm.MethodName) "SealedBonds")]
theorem jnest_ok : ∀ w ∈ jnest, ∃ (a : String) (i : Nat) (y : MethodName) (h : String), w = Cond.methodLinkNest a i y h := by
  intro w hw
  simp only [jnest, List.mem_cons, List.not_mem_nil, or_false] at hw
  rcases hw with rfl | rfl | rfl | rfl | rfl | rfl | rfl | rfl | rfl <;> exact ⟨_, _, _, _, rfl⟩
theorem jnest_in : ∀ w ∈ jnest, w ∈ lw_tbl := by decide +kernel
