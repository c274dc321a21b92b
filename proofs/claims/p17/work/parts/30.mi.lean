/-! a machine over whole numbers: its ints are Int (what they are modulo 2^32 counts), its heap is numbers (s), references (p), rows (c); cells up to 48 are as they are when the law's loop begins, D says what the later ones are -/
abbrev mi_V : Type := Int ⊕ Nat ⊕ Int
abbrev mi_H : Type := Nat × (Nat → Nat × Nat) × (Nat → Int) × (Nat → Nat) × (Nat → Nat → Int)
abbrev mi_S : Type := Nat × List (Option mi_V) × List mi_V × mi_H
abbrev mi_Rs : Type := Option mi_V ⊕ Nat
abbrev mi_Ac : Type := mi_S ⊕ ((mi_Rs × mi_H) ⊕ (Nat × List (Option mi_V) × List mi_V))
def us (s : Nat → Int) (k : Nat) (v : Int) : Nat → Int := fun j => cond (Nat.beq j k) v (s j)
def up (s : Nat → Nat) (k : Nat) (v : Nat) : Nat → Nat := fun j => cond (Nat.beq j k) v (s j)
def uc (s : Nat → Nat → Int) (k : Nat) (v : Nat → Int) : Nat → Nat → Int := fun j => cond (Nat.beq j k) v (s j)
def ud (s : Nat → Nat × Nat) (k : Nat) (v : Nat × Nat) : Nat → Nat × Nat := fun j => cond (Nat.beq j k) v (s j)
def ua (f : Nat → Int) (k : Nat) (v : Int) : Nat → Int := fun j => if j = k then v else f j
/-- what the first 48 cells are: (0, n) ints, (1, n) bytes, (2, n) longs, (3 + c, 0) an object of class c -/
def mi_d0 (a : Nat) : Nat × Nat := (cond (Nat.ble a 23) (cond (Nat.ble a 11) (cond (Nat.ble a 5) (cond (Nat.ble a 2) (cond (Nat.ble a 0) (3, 0) (cond (Nat.ble a 1) (5, 0) (0, 0))) (cond (Nat.ble a 3) (0, 5) (cond (Nat.ble a 4) (4, 0) (1, 64)))) (cond (Nat.ble a 8) (cond (Nat.ble a 6) (4, 0) (cond (Nat.ble a 7) (1, 64) (6, 0))) (cond (Nat.ble a 9) (7, 0) (cond (Nat.ble a 10) (0, 1468) (0, 1468))))) (cond (Nat.ble a 17) (cond (Nat.ble a 14) (cond (Nat.ble a 12) (8, 0) (cond (Nat.ble a 13) (0, 66) (0, 66))) (cond (Nat.ble a 15) (0, 0) (cond (Nat.ble a 16) (10, 0) (12, 0)))) (cond (Nat.ble a 20) (cond (Nat.ble a 18) (0, 5) (cond (Nat.ble a 19) (0, 3) (11, 0))) (cond (Nat.ble a 21) (9, 0) (cond (Nat.ble a 22) (0, 66) (0, 66)))))) (cond (Nat.ble a 35) (cond (Nat.ble a 29) (cond (Nat.ble a 26) (cond (Nat.ble a 24) (0, 0) (cond (Nat.ble a 25) (5, 0) (0, 0))) (cond (Nat.ble a 27) (5, 0) (cond (Nat.ble a 28) (0, 0) (0, 64)))) (cond (Nat.ble a 32) (cond (Nat.ble a 30) (13, 0) (cond (Nat.ble a 31) (0, 12288) (0, 5))) (cond (Nat.ble a 33) (0, 12288) (cond (Nat.ble a 34) (1, 32768) (1, 65536))))) (cond (Nat.ble a 41) (cond (Nat.ble a 38) (cond (Nat.ble a 36) (0, 367) (cond (Nat.ble a 37) (0, 367) (0, 367))) (cond (Nat.ble a 39) (0, 367) (cond (Nat.ble a 40) (0, 367) (0, 367)))) (cond (Nat.ble a 44) (cond (Nat.ble a 42) (0, 367) (cond (Nat.ble a 43) (0, 367) (0, 12288))) (cond (Nat.ble a 45) (0, 3) (cond (Nat.ble a 46) (0, 5) (2, 1)))))))
/-- a field's kind: 0 int, 1 boolean, 2 a reference, 3 a final one -/
def mi_ft (cj k : Nat) : Nat := (cond (Nat.ble cj 4) (cond (Nat.ble cj 1) (cond (Nat.ble cj 0) (cond (Nat.ble k 5) (cond (Nat.ble k 2) (cond (Nat.ble k 0) 3 (cond (Nat.ble k 1) 3 3)) (cond (Nat.ble k 3) 3 (cond (Nat.ble k 4) 3 3))) (cond (Nat.ble k 8) (cond (Nat.ble k 6) 3 (cond (Nat.ble k 7) 3 2)) (cond (Nat.ble k 9) 2 (cond (Nat.ble k 10) 1 0)))) (cond (Nat.ble k 0) 2 0)) (cond (Nat.ble cj 2) (cond (Nat.ble k 1) (cond (Nat.ble k 0) 0 0) (cond (Nat.ble k 2) 0 (cond (Nat.ble k 3) 0 2))) (cond (Nat.ble cj 3) (cond (Nat.ble k 4) (cond (Nat.ble k 1) (cond (Nat.ble k 0) 0 0) (cond (Nat.ble k 2) 0 (cond (Nat.ble k 3) 0 0))) (cond (Nat.ble k 6) (cond (Nat.ble k 5) 0 0) (cond (Nat.ble k 7) 0 (cond (Nat.ble k 8) 0 0)))) (cond (Nat.ble k 0) 2 (cond (Nat.ble k 1) 2 0))))) (cond (Nat.ble cj 7) (cond (Nat.ble cj 5) (cond (Nat.ble k 7) (cond (Nat.ble k 3) (cond (Nat.ble k 1) (cond (Nat.ble k 0) 3 3) (cond (Nat.ble k 2) 3 2)) (cond (Nat.ble k 5) (cond (Nat.ble k 4) 2 2) (cond (Nat.ble k 6) 0 0))) (cond (Nat.ble k 11) (cond (Nat.ble k 9) (cond (Nat.ble k 8) 0 0) (cond (Nat.ble k 10) 0 0)) (cond (Nat.ble k 13) (cond (Nat.ble k 12) 0 0) (cond (Nat.ble k 14) 0 (cond (Nat.ble k 15) 1 1))))) (cond (Nat.ble cj 6) (cond (Nat.ble k 7) (cond (Nat.ble k 3) (cond (Nat.ble k 1) (cond (Nat.ble k 0) 3 3) (cond (Nat.ble k 2) 3 2)) (cond (Nat.ble k 5) (cond (Nat.ble k 4) 2 2) (cond (Nat.ble k 6) 0 0))) (cond (Nat.ble k 11) (cond (Nat.ble k 9) (cond (Nat.ble k 8) 0 0) (cond (Nat.ble k 10) 0 0)) (cond (Nat.ble k 13) (cond (Nat.ble k 12) 0 0) (cond (Nat.ble k 14) 0 (cond (Nat.ble k 15) 1 1))))) (cond (Nat.ble k 0) 3 (cond (Nat.ble k 1) 0 0)))) (cond (Nat.ble cj 8) (cond (Nat.ble k 2) (cond (Nat.ble k 0) 3 (cond (Nat.ble k 1) 0 0)) (cond (Nat.ble k 4) (cond (Nat.ble k 3) 0 0) (cond (Nat.ble k 5) 0 0))) (cond (Nat.ble cj 9) (cond (Nat.ble k 2) (cond (Nat.ble k 0) 3 (cond (Nat.ble k 1) 3 3)) (cond (Nat.ble k 4) (cond (Nat.ble k 3) 3 3) (cond (Nat.ble k 5) 1 0))) (cond (Nat.ble k 30) (cond (Nat.ble k 14) (cond (Nat.ble k 6) (cond (Nat.ble k 2) (cond (Nat.ble k 0) 0 (cond (Nat.ble k 1) 0 0)) (cond (Nat.ble k 4) (cond (Nat.ble k 3) 0 0) (cond (Nat.ble k 5) 3 3))) (cond (Nat.ble k 10) (cond (Nat.ble k 8) (cond (Nat.ble k 7) 1 0) (cond (Nat.ble k 9) 0 0)) (cond (Nat.ble k 12) (cond (Nat.ble k 11) 0 3) (cond (Nat.ble k 13) 3 0)))) (cond (Nat.ble k 22) (cond (Nat.ble k 18) (cond (Nat.ble k 16) (cond (Nat.ble k 15) 3 0) (cond (Nat.ble k 17) 0 0)) (cond (Nat.ble k 20) (cond (Nat.ble k 19) 0 0) (cond (Nat.ble k 21) 0 0))) (cond (Nat.ble k 26) (cond (Nat.ble k 24) (cond (Nat.ble k 23) 0 0) (cond (Nat.ble k 25) 0 0)) (cond (Nat.ble k 28) (cond (Nat.ble k 27) 3 3) (cond (Nat.ble k 29) 3 3))))) (cond (Nat.ble k 46) (cond (Nat.ble k 38) (cond (Nat.ble k 34) (cond (Nat.ble k 32) (cond (Nat.ble k 31) 3 3) (cond (Nat.ble k 33) 3 3)) (cond (Nat.ble k 36) (cond (Nat.ble k 35) 0 1) (cond (Nat.ble k 37) 0 0))) (cond (Nat.ble k 42) (cond (Nat.ble k 40) (cond (Nat.ble k 39) 0 3) (cond (Nat.ble k 41) 0 0)) (cond (Nat.ble k 44) (cond (Nat.ble k 43) 0 0) (cond (Nat.ble k 45) 0 1)))) (cond (Nat.ble k 54) (cond (Nat.ble k 50) (cond (Nat.ble k 48) (cond (Nat.ble k 47) 0 0) (cond (Nat.ble k 49) 0 0)) (cond (Nat.ble k 52) (cond (Nat.ble k 51) 0 0) (cond (Nat.ble k 53) 0 0))) (cond (Nat.ble k 58) (cond (Nat.ble k 56) (cond (Nat.ble k 55) 3 3) (cond (Nat.ble k 57) 0 0)) (cond (Nat.ble k 60) (cond (Nat.ble k 59) 0 0) (cond (Nat.ble k 61) 0 0))))))))))
/-- the final references of the first objects -/
def mi_r0 (q : Nat) : Nat := (cond (Nat.ble q 2000) (cond (Nat.ble q 1200) (cond (Nat.ble q 3) (cond (Nat.ble q 1) (cond (Nat.ble q 0) 1 3) (cond (Nat.ble q 2) 4 6)) (cond (Nat.ble q 5) (cond (Nat.ble q 4) 8 9) (cond (Nat.ble q 6) 12 (cond (Nat.ble q 7) 17 16)))) (cond (Nat.ble q 1700) (cond (Nat.ble q 1202) (cond (Nat.ble q 1201) 8 9) (cond (Nat.ble q 1600) 4 20)) (cond (Nat.ble q 1702) (cond (Nat.ble q 1701) 8 21) (cond (Nat.ble q 1703) 18 (cond (Nat.ble q 1704) 19 6))))) (cond (Nat.ble q 3027) (cond (Nat.ble q 3005) (cond (Nat.ble q 2101) (cond (Nat.ble q 2100) 20 8) (cond (Nat.ble q 2102) 9 31)) (cond (Nat.ble q 3012) (cond (Nat.ble q 3006) 32 33) (cond (Nat.ble q 3013) 34 (cond (Nat.ble q 3015) 35 36)))) (cond (Nat.ble q 3032) (cond (Nat.ble q 3029) (cond (Nat.ble q 3028) 37 38) (cond (Nat.ble q 3030) 39 (cond (Nat.ble q 3031) 40 41))) (cond (Nat.ble q 3034) (cond (Nat.ble q 3033) 42 43) (cond (Nat.ble q 3040) 44 (cond (Nat.ble q 3055) 45 46))))))
def mi_dsc (D : Nat → Nat × Nat) (a : Nat) : Nat × Nat := cond (Nat.ble 48 a) (D a) (mi_d0 a)
/-- the class of an object among the first 48 cells -/
def mi_ob (a : Nat) : Option Nat := cond (Nat.ble 48 a) none (match mi_d0 a with
  | (k + 3, _) => some k
  | _ => none)
def mi_arr (n : Nat) (D : Nat → Nat × Nat) (a : Nat) : Option (Nat × Nat) := cond (Nat.ble 48 a) (if a < 1000000 ∧ a < 48 + n then some (D a) else none) (some (mi_d0 a))
def inR (x : Int) : Prop := -2147483648 ≤ x ∧ x ≤ 2147483647
def mi_and (x y : Int) : Int := (Int32.ofInt x &&& Int32.ofInt y).toInt
def mi_or (x y : Int) : Int := (Int32.ofInt x ||| Int32.ofInt y).toInt
def mi_xor (x y : Int) : Int := (Int32.ofInt x ^^^ Int32.ofInt y).toInt
def mi_shl (x y : Int) : Int := (Int32.ofInt x <<< (Int32.ofInt y &&& 31)).toInt
def mi_shr (x y : Int) : Int := (Int32.ofInt x >>> (Int32.ofInt y &&& 31)).toInt
def mi_ushr (x y : Int) : Int := ((Int32.ofInt x).toUInt32 >>> ((Int32.ofInt y).toUInt32 &&& Int32.toUInt32 31)).toInt32.toInt
def mi_i2b (x : Int) : Int := (Int32.ofInt x).toInt8.toInt32.toInt
def mi_nb (x : Int) : Int := (vp_nar .byte (Int32.ofInt x)).toInt
def mi_lshl (x y : Int) : Int := (Int64.ofInt x <<< ((Int32.ofInt y).toInt64 &&& 63)).toInt
def mi_lcmp (x y : Int) : Int := (lg_cmp (Int64.ofInt x) (Int64.ofInt y)).toInt
def mi_cmp (c : Jvm.ClassFile.Cond) (x y : Int) : Bool := match c with
  | .eq => decide (x = y)
  | .ne => !decide (x = y)
  | .lt => decide (x < y)
  | .ge => decide (y ≤ x)
  | .gt => decide (y < x)
  | .le => decide (x ≤ y)
abbrev mi_F : Type := Nat × List (Option mi_V) × List mi_V
def mi_jump (pc : Nat) (off : Int) (ls : List (Option mi_V)) (st : List mi_V) : Option mi_F :=
  if 0 ≤ (pc : Int) + off then some (((pc : Int) + off).toNat, ls, st) else none
def mi_iload (i pc' : Nat) (ls : List (Option mi_V)) (st : List mi_V) : Option mi_F := match ls[i]? with
  | some (some (.inl x)) => some (pc', ls, .inl x :: st)
  | _ => none
def mi_aload (i pc' : Nat) (ls : List (Option mi_V)) (st : List mi_V) : Option mi_F := match ls[i]? with
  | some (some (.inr (.inl a))) => some (pc', ls, .inr (.inl a) :: st)
  | _ => none
def mi_istore (i pc' : Nat) (ls : List (Option mi_V)) (st : List mi_V) : Option mi_F := match st with
  | .inl x :: r => if i < ls.length then some (pc', ls.set i (some (.inl x)), r) else none
  | _ => none
def mi_astore (i pc' : Nat) (ls : List (Option mi_V)) (st : List mi_V) : Option mi_F := match st with
  | .inr (.inl x) :: r => if i < ls.length then some (pc', ls.set i (some (.inr (.inl x))), r) else none
  | _ => none
def mi_iinc (i pc' : Nat) (n : Int) (ls : List (Option mi_V)) (st : List mi_V) : Option mi_F := match ls[i]? with
  | some (some (.inl x)) => some (pc', ls.set i (some (.inl (x + n))), st)
  | _ => none
def mi_bin (f : Int → Int → Int) (pc' : Nat) (ls : List (Option mi_V)) (st : List mi_V) : Option mi_F := match st with
  | .inl y :: .inl x :: r => some (pc', ls, .inl (f x y) :: r)
  | _ => none
def mi_div (f : Int → Int → Int) (pc' : Nat) (ls : List (Option mi_V)) (st : List mi_V) : Option mi_F := match st with
  | .inl y :: .inl x :: r => if (-2147483648 ≤ x ∧ x ≤ 2147483647) ∧ 0 < y ∧ y ≤ 2147483647 then some (pc', ls, .inl (f x y) :: r) else none
  | _ => none
def mi_un (f : Int → Int) (pc' : Nat) (ls : List (Option mi_V)) (st : List mi_V) : Option mi_F := match st with
  | .inl x :: r => some (pc', ls, .inl (f x) :: r)
  | _ => none
def mi_i2l (pc' : Nat) (ls : List (Option mi_V)) (st : List mi_V) : Option mi_F := match st with
  | .inl x :: r => if -2147483648 ≤ x ∧ x ≤ 2147483647 then some (pc', ls, .inr (.inr x) :: r) else none
  | _ => none
def mi_lsh (pc' : Nat) (ls : List (Option mi_V)) (st : List mi_V) : Option mi_F := match st with
  | .inl y :: .inr (.inr x) :: r => some (pc', ls, .inr (.inr (mi_lshl x y)) :: r)
  | _ => none
def mi_lcm (pc' : Nat) (ls : List (Option mi_V)) (st : List mi_V) : Option mi_F := match st with
  | .inr (.inr y) :: .inr (.inr x) :: r => some (pc', ls, .inl (mi_lcmp x y) :: r)
  | _ => none
def mi_c1 (v : mi_V) : Bool := match v with
  | .inr (.inr _) => false
  | _ => true
def mi_dup (pc' : Nat) (ls : List (Option mi_V)) (st : List mi_V) : Option mi_F := match st with
  | v :: r => cond (mi_c1 v) (some (pc', ls, v :: v :: r)) none
  | _ => none
def mi_dupx1 (pc' : Nat) (ls : List (Option mi_V)) (st : List mi_V) : Option mi_F := match st with
  | v :: u :: r => cond (mi_c1 v && mi_c1 u) (some (pc', ls, v :: u :: v :: r)) none
  | _ => none
def mi_dupx2 (pc' : Nat) (ls : List (Option mi_V)) (st : List mi_V) : Option mi_F := match st with
  | v :: u :: x :: r => cond (mi_c1 v && (mi_c1 u && mi_c1 x)) (some (pc', ls, v :: u :: x :: v :: r)) none
  | _ => none
def mi_dup2 (pc' : Nat) (ls : List (Option mi_V)) (st : List mi_V) : Option mi_F := match st with
  | v :: u :: r => cond (mi_c1 v && mi_c1 u) (some (pc', ls, v :: u :: v :: u :: r)) none
  | _ => none
def mi_pop (pc' : Nat) (ls : List (Option mi_V)) (st : List mi_V) : Option mi_F := match st with
  | v :: r => cond (mi_c1 v) (some (pc', ls, r)) none
  | _ => none
def mi_br (b : Bool) (pc : Nat) (off : Int) (ls : List (Option mi_V)) (st : List mi_V) : Option mi_F := match mi_jump pc off ls st with
  | some q => if b = true then some q else some (pc + 3, ls, st)
  | none => none
def mi_if1 (c : Jvm.ClassFile.Cond) (pc : Nat) (off : Int) (ls : List (Option mi_V)) (st : List mi_V) : Option mi_F := match st with
  | .inl x :: r => if -2147483648 ≤ x ∧ x ≤ 2147483647 then mi_br (mi_cmp c x 0) pc off ls r else none
  | _ => none
def mi_if2 (c : Jvm.ClassFile.Cond) (pc : Nat) (off : Int) (ls : List (Option mi_V)) (st : List mi_V) : Option mi_F := match st with
  | .inl y :: .inl x :: r => if (-2147483648 ≤ x ∧ x ≤ 2147483647) ∧ (-2147483648 ≤ y ∧ y ≤ 2147483647) then mi_br (mi_cmp c x y) pc off ls r else none
  | _ => none
def mi_tsw (dflt lo hi : Int) (offs : Array Int) (pc : Nat) (ls : List (Option mi_V)) (st : List mi_V) : Option mi_F := match st with
  | .inl x :: r => if -2147483648 ≤ x ∧ x ≤ 2147483647 then (if x < lo ∨ hi < x then mi_jump pc dflt ls r else match offs[(x - lo).toNat]? with
    | some off => mi_jump pc off ls r
    | none => none) else none
  | _ => none
def mi_lsw (dflt : Int) (ps : Array (Int × Int)) (pc : Nat) (ls : List (Option mi_V)) (st : List mi_V) : Option mi_F := match st with
  | .inl x :: r => if -2147483648 ≤ x ∧ x ≤ 2147483647 then (if (ps.toList.zip (ps.toList.drop 1)).all (fun (a, next) => a.1 < next.1) = true then mi_jump pc (Op.lookupswitch.offset ps.toList dflt x) ls r else none) else none
  | _ => none
/-- a number that a byte holds; that a short holds -/
def mi_b8 (n : Int) : Bool := match n with
  | .ofNat k => Nat.ble k 127
  | .negSucc k => Nat.ble k 127
def mi_b16 (n : Int) : Bool := match n with
  | .ofNat k => Nat.ble k 32767
  | .negSucc k => Nat.ble k 32767
def mi_pure (i : Instr) (pc : Nat) (ls : List (Option mi_V)) (st : List mi_V) : Option mi_F := match i with
  | .iconst n => some (pc + 1, ls, .inl n :: st)
  | .bipush n => cond (mi_b8 n) (some (pc + 2, ls, .inl n :: st)) none
  | .sipush n => cond (mi_b16 n) (some (pc + 3, ls, .inl n :: st)) none
  | .iload_n k => mi_iload k (pc + 1) ls st
  | .iload k => mi_iload k (pc + 2) ls st
  | .aload_n k => mi_aload k (pc + 1) ls st
  | .aload k => mi_aload k (pc + 2) ls st
  | .istore_n k => mi_istore k (pc + 1) ls st
  | .istore k => mi_istore k (pc + 2) ls st
  | .astore_n k => mi_astore k (pc + 1) ls st
  | .astore k => mi_astore k (pc + 2) ls st
  | .iinc k n => mi_iinc k (pc + 3) n ls st
  | .iadd => mi_bin (fun x y => x + y) (pc + 1) ls st
  | .isub => mi_bin (fun x y => x - y) (pc + 1) ls st
  | .imul => mi_bin (fun x y => x * y) (pc + 1) ls st
  | .iand => mi_bin mi_and (pc + 1) ls st
  | .ior => mi_bin mi_or (pc + 1) ls st
  | .ixor => mi_bin mi_xor (pc + 1) ls st
  | .ishl => mi_bin mi_shl (pc + 1) ls st
  | .ishr => mi_bin mi_shr (pc + 1) ls st
  | .iushr => mi_bin mi_ushr (pc + 1) ls st
  | .idiv => mi_div (fun x y => x.tdiv y) (pc + 1) ls st
  | .irem => mi_div (fun x y => x - x.tdiv y * y) (pc + 1) ls st
  | .ineg => mi_un (fun x => -x) (pc + 1) ls st
  | .i2b => mi_un mi_i2b (pc + 1) ls st
  | .i2l => mi_i2l (pc + 1) ls st
  | .lshl => mi_lsh (pc + 1) ls st
  | .lcmp => mi_lcm (pc + 1) ls st
  | .dup => mi_dup (pc + 1) ls st
  | .dup_x1 => mi_dupx1 (pc + 1) ls st
  | .dup_x2 => mi_dupx2 (pc + 1) ls st
  | .dup2 => mi_dup2 (pc + 1) ls st
  | .pop => mi_pop (pc + 1) ls st
  | .ifCond c off => mi_if1 c pc off ls st
  | .if_icmp c off => mi_if2 c pc off ls st
  | .goto off => mi_jump pc off ls st
  | .tableswitch dflt lo hi offs => mi_tsw dflt lo hi offs pc ls st
  | .lookupswitch dflt ps => mi_lsw dflt ps pc ls st
  | _ => none
/-! what a method does next -/
section MIA
variable (Zi : Nat → Option (Nat × (Nat → Int)))
def mi_old (a : Nat) : Option (Nat × (Nat → Int)) := cond (Nat.ble 1000000 a) (Zi (a - 1000000)) none
noncomputable def mi_aGet (cn ix pc : Nat) (ls : List (Option mi_V)) (st : List mi_V) (H : mi_H) : Option mi_Ac := match st with
  | .inr (.inl a) :: r => (match mi_ob a with
    | some cj => (match mm_fldF cn ix cj with
      | some k => cond (Nat.ble (k + 1) (mm_N cj)) (cond (Nat.ble (mi_ft cj k) 1) (some (.inl (pc + 3, ls, .inl (H.2.2.1 (100 * a + k)) :: r, H))) (cond (Nat.beq (mi_ft cj k) 2) (some (.inl (pc + 3, ls, .inr (.inl (H.2.2.2.1 (100 * a + k))) :: r, H))) (some (.inl (pc + 3, ls, .inr (.inl (mi_r0 (100 * a + k))) :: r, H))))) none
      | none => none)
    | none => none)
  | _ => none
noncomputable def mi_aPut (cn ix pc : Nat) (ls : List (Option mi_V)) (st : List mi_V) (H : mi_H) : Option mi_Ac := match st with
  | .inl x :: .inr (.inl a) :: r => (match mi_ob a with
    | some cj => (match mm_fldF cn ix cj with
      | some k => cond (Nat.ble (k + 1) (mm_N cj)) (cond (Nat.beq (mi_ft cj k) 0) (some (.inl (pc + 3, ls, r, (H.1, H.2.1, us H.2.2.1 (100 * a + k) x, H.2.2.2.1, H.2.2.2.2))))
        (cond (Nat.beq (mi_ft cj k) 1) (if x = 0 ∨ x = 1 then some (.inl (pc + 3, ls, r, (H.1, H.2.1, us H.2.2.1 (100 * a + k) x, H.2.2.2.1, H.2.2.2.2))) else none) none)) none
      | none => none)
    | none => none)
  | .inr (.inl q) :: .inr (.inl a) :: r => (match mi_ob a with
    | some cj => (match mm_fldF cn ix cj with
      | some k => cond (Nat.ble (k + 1) (mm_N cj)) (cond (Nat.beq (mi_ft cj k) 2) (some (.inl (pc + 3, ls, r, (H.1, H.2.1, H.2.2.1, up H.2.2.2.1 (100 * a + k) q, H.2.2.2.2)))) none) none
      | none => none)
    | none => none)
  | _ => none
def mi_aSta (cn ix pc : Nat) (ls : List (Option mi_V)) (st : List mi_V) (H : mi_H) : Option mi_Ac := match mm_lk (mm_sp cn) ix with
  | some q => some (.inl (pc + 3, ls, .inr (.inl (1000000 + q.1)) :: st, H))
  | none => none
def mi_aLdc (cn ix pc' : Nat) (ls : List (Option mi_V)) (st : List mi_V) (H : mi_H) : Option mi_Ac := match mm_lk (mm_kp cn) ix with
  | some q => some (.inl (pc', ls, .inl q.1.toInt :: st, H))
  | none => none
def mi_aIld (pc : Nat) (ls : List (Option mi_V)) (st : List mi_V) (H : mi_H) : Option mi_Ac := match st with
  | .inl i :: .inr (.inl a) :: r => (match mi_arr H.1 H.2.1 a with
    | some (0, n) => if 0 ≤ i ∧ i < n ∧ i ≤ 2147483647 then some (.inl (pc + 1, ls, .inl (H.2.2.2.2 a i.toNat) :: r, H)) else none
    | some _ => none
    | none => (match mi_old Zi a with
      | some (n, f) => if 0 ≤ i ∧ i < n ∧ i ≤ 2147483647 then some (.inl (pc + 1, ls, .inl (f i.toNat) :: r, H)) else none
      | none => none))
  | _ => none
def mi_aBld (pc : Nat) (ls : List (Option mi_V)) (st : List mi_V) (H : mi_H) : Option mi_Ac := match st with
  | .inl i :: .inr (.inl a) :: r => (match mi_arr H.1 H.2.1 a with
    | some (1, n) => if 0 ≤ i ∧ i < n ∧ i ≤ 2147483647 then some (.inl (pc + 1, ls, .inl (H.2.2.2.2 a i.toNat) :: r, H)) else none
    | _ => none)
  | _ => none
def mi_aLld (pc : Nat) (ls : List (Option mi_V)) (st : List mi_V) (H : mi_H) : Option mi_Ac := match st with
  | .inl i :: .inr (.inl a) :: r => (match mi_arr H.1 H.2.1 a with
    | some (2, n) => if 0 ≤ i ∧ i < n ∧ i ≤ 2147483647 then some (.inl (pc + 1, ls, .inr (.inr (H.2.2.2.2 a i.toNat)) :: r, H)) else none
    | _ => none)
  | _ => none
def mi_aIst (pc : Nat) (ls : List (Option mi_V)) (st : List mi_V) (H : mi_H) : Option mi_Ac := match st with
  | .inl x :: .inl i :: .inr (.inl a) :: r => (match mi_arr H.1 H.2.1 a with
    | some (0, n) => if 0 ≤ i ∧ i < n ∧ i ≤ 2147483647 then some (.inl (pc + 1, ls, r, (H.1, H.2.1, H.2.2.1, H.2.2.2.1, uc H.2.2.2.2 a (ua (H.2.2.2.2 a) i.toNat x)))) else none
    | _ => none)
  | _ => none
def mi_aBst (pc : Nat) (ls : List (Option mi_V)) (st : List mi_V) (H : mi_H) : Option mi_Ac := match st with
  | .inl x :: .inl i :: .inr (.inl a) :: r => (match mi_arr H.1 H.2.1 a with
    | some (1, n) => if 0 ≤ i ∧ i < n ∧ i ≤ 2147483647 then some (.inl (pc + 1, ls, r, (H.1, H.2.1, H.2.2.1, H.2.2.2.1, uc H.2.2.2.2 a (ua (H.2.2.2.2 a) i.toNat (mi_nb x))))) else none
    | _ => none)
  | _ => none
def mi_aLst (pc : Nat) (ls : List (Option mi_V)) (st : List mi_V) (H : mi_H) : Option mi_Ac := match st with
  | .inr (.inr x) :: .inl i :: .inr (.inl a) :: r => (match mi_arr H.1 H.2.1 a with
    | some (2, n) => if 0 ≤ i ∧ i < n ∧ i ≤ 2147483647 then some (.inl (pc + 1, ls, r, (H.1, H.2.1, H.2.2.1, H.2.2.2.1, uc H.2.2.2.2 a (ua (H.2.2.2.2 a) i.toNat x)))) else none
    | _ => none)
  | _ => none
def mi_aLen (pc : Nat) (ls : List (Option mi_V)) (st : List mi_V) (H : mi_H) : Option mi_Ac := match st with
  | .inr (.inl a) :: r => (match mi_arr H.1 H.2.1 a with
    | some (t, n) => cond (Nat.ble t 2) (some (.inl (pc + 1, ls, .inl (n : Int) :: r, H))) none
    | none => (match mi_old Zi a with
      | some (n, _) => some (.inl (pc + 1, ls, .inl (n : Int) :: r, H))
      | none => none))
  | _ => none
def mi_tg (t : ArrayType) : Option Nat := match t with
  | .int => some 0
  | .byte => some 1
  | .long => some 2
  | _ => none
def mi_aNwa (t : ArrayType) (pc : Nat) (ls : List (Option mi_V)) (st : List mi_V) (H : mi_H) : Option mi_Ac := match st with
  | .inl n :: r => (match mi_tg t with
    | some k => if 0 ≤ n ∧ n ≤ 60000000 ∧ 48 + H.1 < 1000000 then some (.inl (pc + 2, ls, .inr (.inl (48 + H.1)) :: r, (H.1 + 1, ud H.2.1 (48 + H.1) (k, n.toNat), H.2.2.1, H.2.2.2.1, uc H.2.2.2.2 (48 + H.1) (fun _ => 0)))) else none
    | none => none)
  | _ => none
def mi_cat (v : mi_V) : Nat := match v with
  | .inr (.inr _) => 2
  | _ => 1
def mi_cats (st : List mi_V) : Nat := (st.map mi_cat).sum
def mi_aNew (M cn ix : Nat) (pc : Nat) (st : List mi_V) (H : mi_H) : Option mi_Ac := match mm_lk (mm_np cn) ix with
  | some q => if ¬ q.1 < 11 ∧ mm_thr M pc = some (mm_xic cn q.1) ∧ mm_xic cn q.1 ≠ 0 ∧ 48 + H.1 < 1000000 ∧ mi_cats st ≤ 8 then some (.inr (.inl (.inr q.1, (H.1 + 1, ud H.2.1 (48 + H.1) (q.1 + 3, 0), H.2.2.1, H.2.2.2.1, H.2.2.2.2)))) else none
  | none => none
def mi_c1s (as : List mi_V) : Bool := as.all mi_c1
noncomputable def mi_goS (M n : Nat) (st : List mi_V) : Option mi_Ac := cond (Nat.ble M 200)
  (cond (Nat.ble n st.length && (Nat.ble n (mm_mt M).2.2.2.1 && (mi_c1s (st.take n) && Nat.ble (mi_cats (st.drop n)) 8))) (some (.inr (.inr (M, (st.take n).reverse.map some ++ List.replicate ((mm_mt M).2.2.2.1 - (st.take n).reverse.length) none, st.drop n)))) none) none
def mi_aCpy (pc : Nat) (ls : List (Option mi_V)) (st : List mi_V) (H : mi_H) : Option mi_Ac := match st with
  | .inl n :: .inl dp :: .inr (.inl b) :: .inl sp :: .inr (.inl a) :: r => (match mi_arr H.1 H.2.1 a, mi_arr H.1 H.2.1 b with
    | some (t, n0), some (t', n1) => if t = t' ∧ t < 2 ∧ 0 ≤ sp ∧ 0 ≤ dp ∧ 0 ≤ n ∧ sp + n ≤ n0 ∧ dp + n ≤ n1 ∧ n ≤ 1000000 ∧ sp ≤ 1000000 ∧ dp ≤ 1000000 ∧ (t = 0 ∨ ∀ i, i < n.toNat → -128 ≤ H.2.2.2.2 a (sp.toNat + i) ∧ H.2.2.2.2 a (sp.toNat + i) ≤ 127) ∧ mi_cats r ≤ 8
        then some (.inl (pc + 3, ls, r, (H.1, H.2.1, H.2.2.1, H.2.2.2.1, uc H.2.2.2.2 b (va_cpy (H.2.2.2.2 a) (H.2.2.2.2 b) sp.toNat dp.toNat n.toNat)))) else none
    | _, _ => none)
  | _ => none
noncomputable def mi_aStc (cn ix pc : Nat) (ls : List (Option mi_V)) (st : List mi_V) (H : mi_H) : Option mi_Ac := match mm_lk (mm_ip cn) ix with
  | some (k, n, _, tg) => cond (Nat.ble k 1) (match tg with
      | [(_, M, _)] => mi_goS M n st
      | _ => none)
    (cond (Nat.beq k 10) (match st with
      | .inl y :: .inl x :: r => if mi_cats r ≤ 8 ∧ (-2147483648 ≤ x ∧ x ≤ 2147483647) ∧ (-2147483648 ≤ y ∧ y ≤ 2147483647) then some (.inl (pc + 3, ls, .inl (max x y) :: r, H)) else none
      | _ => none)
    (cond (Nat.beq k 11) (match st with
      | .inl y :: .inl x :: r => if mi_cats r ≤ 8 ∧ (-2147483648 ≤ x ∧ x ≤ 2147483647) ∧ (-2147483648 ≤ y ∧ y ≤ 2147483647) then some (.inl (pc + 3, ls, .inl (min x y) :: r, H)) else none
      | _ => none)
    (cond (Nat.beq k 12) (match st with
      | .inl x :: r => if mi_cats r ≤ 8 ∧ (-2147483647 ≤ x ∧ x ≤ 2147483647) then some (.inl (pc + 3, ls, .inl (if 0 ≤ x then x else -x) :: r, H)) else none
      | _ => none)
    (cond (Nat.beq k 13) (mi_aCpy pc ls st H) none))))
  | none => none
noncomputable def mi_aSpc (cn ix : Nat) (st : List mi_V) : Option mi_Ac := match mm_lk (mm_ip cn) ix with
  | some (k, n, _, tg) => cond (Nat.beq k 2 || Nat.beq k 3) (match st[n]? with
    | some (.inr (.inl _)) => (match tg with
        | [(_, M, _)] => mi_goS M (n + 1) st
        | _ => none)
    | _ => none) none
  | none => none
noncomputable def mi_aVrt (cn ix : Nat) (st : List mi_V) : Option mi_Ac := match mm_lk (mm_ip cn) ix with
  | some (k, n, _, tg) => cond (Nat.beq k 4 || (Nat.beq k 5 || Nat.beq k 7)) (match st[n]? with
    | some (.inr (.inl a)) => (match mi_ob a with
      | some cj => (match mm_lk tg cj with
        | some q => mi_goS q.1 (n + 1) st
        | none => none)
      | none => none)
    | _ => none) none
  | none => none
noncomputable def mi_act (M : Nat) (S : mi_S) : Option mi_Ac := match mm_kT M S.1 with
  | some (i, _) => (match i with
    | .getfield ix => mi_aGet (mm_mt M).2.1 ix S.1 S.2.1 S.2.2.1 S.2.2.2
    | .putfield ix => mi_aPut (mm_mt M).2.1 ix S.1 S.2.1 S.2.2.1 S.2.2.2
    | .getstatic ix => mi_aSta (mm_mt M).2.1 ix S.1 S.2.1 S.2.2.1 S.2.2.2
    | .ldc ix => mi_aLdc (mm_mt M).2.1 ix (S.1 + 2) S.2.1 S.2.2.1 S.2.2.2
    | .iaload => mi_aIld Zi S.1 S.2.1 S.2.2.1 S.2.2.2
    | .baload => mi_aBld S.1 S.2.1 S.2.2.1 S.2.2.2
    | .laload => mi_aLld S.1 S.2.1 S.2.2.1 S.2.2.2
    | .iastore => mi_aIst S.1 S.2.1 S.2.2.1 S.2.2.2
    | .bastore => mi_aBst S.1 S.2.1 S.2.2.1 S.2.2.2
    | .lastore => mi_aLst S.1 S.2.1 S.2.2.1 S.2.2.2
    | .arraylength => mi_aLen Zi S.1 S.2.1 S.2.2.1 S.2.2.2
    | .newarray t => mi_aNwa t S.1 S.2.1 S.2.2.1 S.2.2.2
    | .new ix => mi_aNew M (mm_mt M).2.1 ix S.1 S.2.2.1 S.2.2.2
    | .invokestatic ix => mi_aStc (mm_mt M).2.1 ix S.1 S.2.1 S.2.2.1 S.2.2.2
    | .invokespecial ix => mi_aSpc (mm_mt M).2.1 ix S.2.2.1
    | .invokevirtual ix => mi_aVrt (mm_mt M).2.1 ix S.2.2.1
    | .ireturn => (match S.2.2.1 with
      | [.inl v] => if (mm_mt M).2.2.1 = some .int ∨ ((mm_mt M).2.2.1 = some .boolean ∧ (v = 0 ∨ v = 1)) then some (.inr (.inl (.inl (some (.inl v)), S.2.2.2))) else none
      | _ => none)
    | .areturn => (match S.2.2.1 with
      | [.inr (.inl a)] => if (mm_mt M).2.2.1 = some (.array .byte) then some (.inr (.inl (.inl (some (.inr (.inl a))), S.2.2.2))) else none
      | _ => none)
    | .return_ => (match S.2.2.1 with
      | [] => if (mm_mt M).2.2.1 = none then some (.inr (.inl (.inl none, S.2.2.2))) else none
      | _ => none)
    | i => (match mi_pure i S.1 S.2.1 S.2.2.1 with
      | some q => some (.inl (q.1, q.2.1, q.2.2, S.2.2.2))
      | none => none))
  | none => none
end MIA
