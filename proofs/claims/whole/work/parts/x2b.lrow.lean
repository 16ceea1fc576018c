/-! SealedBondsLaw.row as a clean function: 0 and the number told, or 1 and a thrown object more (a cell of kind 0 with six slots) -/
noncomputable def f_L_row : jF := fun vs h => match vs with
  | [.ref x, .int p, .ref o] => if (hT h x).1 = 10 then (match cnd_S_row ([.ref x, .int p], h) with
      | some (true, _) => some (some (.int 1), hNew h 0 6)
      | _ => match f_S_row [.ref x, .int p] h with
         | some (some (.int v), h1) => (match j_aput h1 5 (.ref o) (.int (nI 0)) (.long v.toInt64) with | some h2 => some (some (.int 0), h2) | none => none)
         | _ => none) else none
  | _ => none
