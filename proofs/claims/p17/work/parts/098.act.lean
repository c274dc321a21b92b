/-! what a method does next -/
section MA
variable (Z : Nat → Option (Nat × (Nat → Int32)))
def mm_old (a : Nat) : Option (Nat × (Nat → Int32)) := if a < 1000000 then none else Z (a - 1000000)
def mm_obj (w : mm_W) (a : Nat) : Option (Nat × List Value) := if a < 1000000 then (match w[a]? with
  | some (.inr q) => some q
  | _ => none) else none
def mm_ar (w : mm_W) (a : Nat) : Option (FieldType × vp_A) := if a < 1000000 then (match w[a]? with
  | some (.inl q) => some q
  | _ => none) else none
def mm_fld (cn ix cj : Nat) : Option Nat := match mm_lk (mm_fp cn) ix with
  | some q => (match mm_lk q.2.2 cj with
    | some a => some a.1
    | none => none)
  | none => none
def mm_aGet (cn ix pc : Nat) (ls : List (Option Value)) (st : List Value) (w : mm_W) : Option mm_Ac := match st with
  | .ref a :: r => (match mm_obj w a with
    | some (cj, fs) => (match mm_fld cn ix cj with
      | some k => (match fs[k]? with
        | some v => some (.inl (pc + 3, ls, v :: r, w))
        | none => none)
      | none => none)
    | none => none)
  | _ => none
/-- a value that a field of the type takes as it is -/
def mm_fits (ty : FieldType) (v : Value) : Bool := match ty, v with
  | .int, .int _ => true
  | .boolean, .int x => decide (x = 0) || decide (x = 1)
  | .object _, .ref _ => true
  | .object _, .null => true
  | .array _, .ref _ => true
  | .array _, .null => true
  | _, _ => false
def mm_aPut (M cn ix pc : Nat) (ls : List (Option Value)) (st : List Value) (w : mm_W) : Option mm_Ac := match st with
  | v :: .ref a :: r => (match mm_obj w a with
    | some (cj, fs) => (match mm_fld cn ix cj with
      | some k => if k < fs.length ∧ mm_fits (mm_ty0 cj k) v = true ∧ ((mm_T cj k).2.2.2 = false ∨ ((mm_y M).name = "<init>" ∧ (mm_T cj k).1 = mm_own cn)) then some (.inl (pc + 3, ls, r, w.set a (.inr (cj, fs.set k v)))) else none
      | none => none)
    | none => none)
  | _ => none
def mm_aSta (cn ix pc : Nat) (ls : List (Option Value)) (st : List Value) (w : mm_W) : Option mm_Ac := match mm_lk (mm_sp cn) ix with
  | some q => some (.inl (pc + 3, ls, .ref (1000000 + q.1) :: st, w))
  | none => none
def mm_aLdc (cn ix pc' : Nat) (ls : List (Option Value)) (st : List Value) (w : mm_W) : Option mm_Ac := match mm_lk (mm_kp cn) ix with
  | some q => some (.inl (pc', ls, .int q.1 :: st, w))
  | none => none
def mm_aIld (pc : Nat) (ls : List (Option Value)) (st : List Value) (w : mm_W) : Option mm_Ac := match st with
  | .int i :: .ref a :: r => (match mm_ar w a with
    | some (.int, n, .inl f) => if i < 0 ∨ n ≤ i.toNatClampNeg then none else some (.inl (pc + 1, ls, .int (f i.toNatClampNeg) :: r, w))
    | some _ => none
    | none => (match mm_old Z a with
      | some (n, f) => if i < 0 ∨ n ≤ i.toNatClampNeg then none else some (.inl (pc + 1, ls, .int (f i.toNatClampNeg) :: r, w))
      | none => none))
  | _ => none
def mm_aBld (pc : Nat) (ls : List (Option Value)) (st : List Value) (w : mm_W) : Option mm_Ac := match st with
  | .int i :: .ref a :: r => (match mm_ar w a with
    | some (.byte, n, .inl f) => if i < 0 ∨ n ≤ i.toNatClampNeg then none else some (.inl (pc + 1, ls, .int (f i.toNatClampNeg) :: r, w))
    | _ => none)
  | _ => none
def mm_aLld (pc : Nat) (ls : List (Option Value)) (st : List Value) (w : mm_W) : Option mm_Ac := match st with
  | .int i :: .ref a :: r => (match mm_ar w a with
    | some (.long, n, .inr (.inl f)) => if i < 0 ∨ n ≤ i.toNatClampNeg then none else some (.inl (pc + 1, ls, .long (f i.toNatClampNeg) :: r, w))
    | _ => none)
  | _ => none
def mm_aIst (pc : Nat) (ls : List (Option Value)) (st : List Value) (w : mm_W) : Option mm_Ac := match st with
  | .int x :: .int i :: .ref a :: r => (match mm_ar w a with
    | some (.int, n, .inl f) => if i < 0 ∨ n ≤ i.toNatClampNeg then none else some (.inl (pc + 1, ls, r, w.set a (.inl (.int, n, .inl (upd f i.toNatClampNeg x)))))
    | _ => none)
  | _ => none
def mm_aBst (pc : Nat) (ls : List (Option Value)) (st : List Value) (w : mm_W) : Option mm_Ac := match st with
  | .int x :: .int i :: .ref a :: r => (match mm_ar w a with
    | some (.byte, n, .inl f) => if i < 0 ∨ n ≤ i.toNatClampNeg then none else some (.inl (pc + 1, ls, r, w.set a (.inl (.byte, n, .inl (upd f i.toNatClampNeg (vp_nar .byte x))))))
    | _ => none)
  | _ => none
def mm_aLst (pc : Nat) (ls : List (Option Value)) (st : List Value) (w : mm_W) : Option mm_Ac := match st with
  | .long x :: .int i :: .ref a :: r => (match mm_ar w a with
    | some (.long, n, .inr (.inl f)) => if i < 0 ∨ n ≤ i.toNatClampNeg then none else some (.inl (pc + 1, ls, r, w.set a (.inl (.long, n, .inr (.inl (vp_updL f i.toNatClampNeg x))))))
    | _ => none)
  | _ => none
def mm_aLen (pc : Nat) (ls : List (Option Value)) (st : List Value) (w : mm_W) : Option mm_Ac := match st with
  | .ref a :: r => (match mm_ar w a with
    | some (ty, x) => if ty = .int ∨ ty = .byte ∨ ty = .long then some (.inl (pc + 1, ls, .int (Int32.ofNat x.1) :: r, w)) else none
    | none => (match mm_old Z a with
      | some (n, _) => some (.inl (pc + 1, ls, .int (Int32.ofNat n) :: r, w))
      | none => none))
  | _ => none
def mm_zero (t : ArrayType) : Option (FieldType × ((Nat → Int32) ⊕ (Nat → Int64) ⊕ (Nat → UInt32) ⊕ (Nat → UInt64) ⊕ (Nat → Option Nat))) := match t with
  | .int => some (.int, .inl (fun _ => 0))
  | .byte => some (.byte, .inl (fun _ => 0))
  | .long => some (.long, .inr (.inl (fun _ => 0)))
  | _ => none
def mm_aNwa (t : ArrayType) (pc : Nat) (ls : List (Option Value)) (st : List Value) (w : mm_W) : Option mm_Ac := match st with
  | .int n :: r => (match mm_zero t with
    | some (ty, z) => if n < 0 ∨ 60000000 < n.toNatClampNeg ∨ 1000000 ≤ w.length then none else some (.inl (pc + 2, ls, .ref w.length :: r, w ++ [.inl (ty, n.toNatClampNeg, z)]))
    | none => none)
  | _ => none
/-- are the three instructions behind 'new' those of a throw? -/
def mm_thr (M pc : Nat) : Option Nat := match (mm_code M)[pc + 3]?, (mm_code M)[pc + 4]?, (mm_code M)[pc + 7]? with
  | some (some (.dup, 1)), some (some (.invokespecial ic, 3)), some (some (.athrow, 1)) => if (mm_hh M).isEmpty = true then some ic else none
  | _, _, _ => none
def mm_xic (cn x : Nat) : Nat := match cn, x with
  | 0, 11 => 90
  | 0, 12 => 195
  | 0, 13 => 107
  | 8, 12 => 36
  | _, _ => 0
def mm_aNew (M cn ix pc : Nat) (ls : List (Option Value)) (st : List Value) (w : mm_W) : Option mm_Ac := match mm_lk (mm_np cn) ix with
  | some q => if q.1 < 11 then (if w.length < 1000000 then some (.inl (pc + 3, ls, .ref w.length :: st, w ++ [.inr (q.1, mm_dv q.1)])) else none)
    else if mm_thr M pc = some (mm_xic cn q.1) ∧ mm_xic cn q.1 ≠ 0 ∧ w.length < 1000000 ∧ (st.map fun v => v.category).sum ≤ 8 then some (.inr (.inl (.inr q.1, w ++ [.inr (q.1, [])]))) else none
  | none => none
def mm_ls0 (M : Nat) (as : List Value) : List (Option Value) := as.map some ++ List.replicate (mm_mL M - as.length) none
def mm_cat1 (as : List Value) : Bool := as.all (fun v => decide (v.category = 1))
def mm_goS (M n : Nat) (st : List Value) : Option mm_Ac :=
  if n ≤ st.length ∧ n ≤ mm_mL M ∧ mm_cat1 (st.take n) = true ∧ ((st.drop n).map fun v => v.category).sum ≤ 8 then some (.inr (.inr (M, mm_ls0 M (st.take n).reverse, st.drop n))) else none
def mm_goV (M n : Nat) (st : List Value) : Option mm_Ac :=
  if n + 1 ≤ st.length ∧ n + 1 ≤ mm_mL M ∧ mm_cat1 (st.take n) = true ∧ ((st.drop (n + 1)).map fun v => v.category).sum ≤ 8 then some (.inr (.inr (M, mm_ls0 M (st.take (n + 1)).reverse, st.drop (n + 1)))) else none
def mm_aCpy (pc : Nat) (ls : List (Option Value)) (st : List Value) (w : mm_W) : Option mm_Ac := match st with
  | .int n :: .int dp :: .ref b :: .int sp :: .ref a :: r => (match mm_ar w a, mm_ar w b with
    | some (ty, n0, .inl f), some (ty', n1, .inl g) => if ty = ty' ∧ (ty = .int ∨ ty = .byte) ∧ ¬ sp < 0 ∧ ¬ dp < 0 ∧ ¬ n < 0 ∧ sp.toNatClampNeg + n.toNatClampNeg ≤ n0 ∧ dp.toNatClampNeg + n.toNatClampNeg ≤ n1 ∧ (ty = .int ∨ ∀ i, i < n.toNatClampNeg → fits ty (.int (f (sp.toNatClampNeg + i))) = true) ∧ (r.map fun v => v.category).sum ≤ 8
        then some (.inl (pc + 3, ls, r, w.set b (.inl (ty, n1, .inl (va_cpy f g sp.toNatClampNeg dp.toNatClampNeg n.toNatClampNeg))))) else none
    | _, _ => none)
  | _ => none
def mm_aStc (cn ix pc : Nat) (ls : List (Option Value)) (st : List Value) (w : mm_W) : Option mm_Ac := match mm_lk (mm_ip cn) ix with
  | some (k, n, _, tg) => if k = 0 ∨ k = 1 then (match tg with
      | [(_, M, _)] => mm_goS M n st
      | _ => none)
    else if k = 10 then (match st with
      | .int y :: .int x :: r => if (r.map fun v => v.category).sum ≤ 8 then some (.inl (pc + 3, ls, .int (if x < y then y else x) :: r, w)) else none
      | _ => none)
    else if k = 11 then (match st with
      | .int y :: .int x :: r => if (r.map fun v => v.category).sum ≤ 8 then some (.inl (pc + 3, ls, .int (if y < x then y else x) :: r, w)) else none
      | _ => none)
    else if k = 12 then (match st with
      | .int x :: r => if (r.map fun v => v.category).sum ≤ 8 then some (.inl (pc + 3, ls, .int (if 0 ≤ x then x else 0 - x) :: r, w)) else none
      | _ => none)
    else if k = 13 then mm_aCpy pc ls st w
    else none
  | none => none
def mm_aSpc (cn ix pc : Nat) (ls : List (Option Value)) (st : List Value) (w : mm_W) : Option mm_Ac := match mm_lk (mm_ip cn) ix with
  | some (k, n, _, tg) => (match st[n]? with
    | some (.ref _) => if k = 2 ∨ k = 3 then (match tg with
        | [(_, M, _)] => mm_goV M n st
        | _ => none)
      else if k = 14 then (match st with
        | .ref _ :: r => if (r.map fun v => v.category).sum ≤ 8 then some (.inl (pc + 3, ls, r, w)) else none
        | _ => none)
      else none
    | _ => none)
  | none => none
def mm_aVrt (cn ix : Nat) (st : List Value) (w : mm_W) : Option mm_Ac := match mm_lk (mm_ip cn) ix with
  | some (k, n, _, tg) => if k = 4 ∨ k = 5 ∨ k = 7 then (match st[n]? with
    | some (.ref a) => (match mm_obj w a with
      | some (cj, _) => (match mm_lk tg cj with
        | some q => mm_goV q.1 n st
        | none => none)
      | none => none)
    | _ => none) else none
  | none => none
def mm_act (M : Nat) (S : mm_S) : Option mm_Ac := match (mm_code M)[S.1]? with
  | some (some (i, _)) => (match i with
    | .getfield ix => mm_aGet (mm_cn M) ix S.1 S.2.1 S.2.2.1 S.2.2.2
    | .putfield ix => mm_aPut M (mm_cn M) ix S.1 S.2.1 S.2.2.1 S.2.2.2
    | .getstatic ix => mm_aSta (mm_cn M) ix S.1 S.2.1 S.2.2.1 S.2.2.2
    | .ldc ix => mm_aLdc (mm_cn M) ix (S.1 + 2) S.2.1 S.2.2.1 S.2.2.2
    | .iaload => mm_aIld Z S.1 S.2.1 S.2.2.1 S.2.2.2
    | .baload => mm_aBld S.1 S.2.1 S.2.2.1 S.2.2.2
    | .laload => mm_aLld S.1 S.2.1 S.2.2.1 S.2.2.2
    | .iastore => mm_aIst S.1 S.2.1 S.2.2.1 S.2.2.2
    | .bastore => mm_aBst S.1 S.2.1 S.2.2.1 S.2.2.2
    | .lastore => mm_aLst S.1 S.2.1 S.2.2.1 S.2.2.2
    | .arraylength => mm_aLen Z S.1 S.2.1 S.2.2.1 S.2.2.2
    | .newarray t => mm_aNwa t S.1 S.2.1 S.2.2.1 S.2.2.2
    | .new ix => mm_aNew M (mm_cn M) ix S.1 S.2.1 S.2.2.1 S.2.2.2
    | .invokestatic ix => mm_aStc (mm_cn M) ix S.1 S.2.1 S.2.2.1 S.2.2.2
    | .invokespecial ix => mm_aSpc (mm_cn M) ix S.1 S.2.1 S.2.2.1 S.2.2.2
    | .invokevirtual ix => mm_aVrt (mm_cn M) ix S.2.2.1 S.2.2.2
    | .ireturn => (match S.2.2.1 with
      | [.int v] => if mm_rt M = some .int ∨ (mm_rt M = some .boolean ∧ (v = 0 ∨ v = 1)) then some (.inr (.inl (.inl (some (.int v)), S.2.2.2))) else none
      | _ => none)
    | .areturn => (match S.2.2.1 with
      | [.ref a] => if mm_rt M = some (.array .byte) then some (.inr (.inl (.inl (some (.ref a)), S.2.2.2))) else none
      | _ => none)
    | .return_ => (match S.2.2.1 with
      | [] => if mm_rt M = none then some (.inr (.inl (.inl none, S.2.2.2))) else none
      | _ => none)
    | i => (match mm_pure i S.1 S.2.1 S.2.2.1 with
      | some q => some (.inl (q.1, q.2.1, q.2.2, S.2.2.2))
      | none => none))
  | _ => none
/-- which catch types take which exceptions: pool numbers of the catching class -/
def mm_okx (M x t : Nat) : Bool := match mm_cn M, t with
  | 12, 13 => decide (x = 11)
  | 12, 40 => decide (x = 12)
  | 12, 19 => decide (x = 13)
  | 0, 193 => decide (x = 12)
  | _, _ => false
def mm_hd (M pc x : Nat) : List (Nat × Nat × Nat × Nat) → Option Nat
  | [] => none
  | (a, b, h, t) :: r => if a ≤ pc ∧ pc < b then (if mm_okx M x t = true then some h else mm_hd M pc x r) else mm_hd M pc x r
def mm_hand (M pc x : Nat) : Option Nat := mm_hd M pc x (mm_hh M)
end MA
abbrev mm_run (Z : Nat → Option (Nat × (Nat → Int32))) (n d M : Nat) (S : mm_S) : Option (mm_Rs × mm_W) := mm_ex (mm_act Z) mm_hand n d M S
