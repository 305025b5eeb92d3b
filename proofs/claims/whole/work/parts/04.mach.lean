/-! THE SMALL MACHINE: the bytecode of the class, the reference and the law over a heap of places; what it answers the machine answers (part 06) -/
abbrev Mm : Type := Nat × (Nat → Nat → Int32) × (Nat → Nat → Int64) × (Nat → Nat → Nat)
def up2 {α : Type} (f : Nat → Nat → α) (p k : Nat) (v : α) : Nat → Nat → α := fun q j => if q = p ∧ j = k then v else f q j
def zr2 {α : Type} (f : Nat → Nat → α) (p : Nat) (v : α) : Nat → Nat → α := fun q j => if q = p then v else f q j
abbrev inb (i : Int32) (n : Nat) : Prop := 0 ≤ i.toInt ∧ i.toInt < n
def ixn (i : Int32) : Nat := i.toInt.toNat
def rfv (r : Nat) : Value := if r = 0 then .null else .ref (r - 1)
def rfn (v : Value) : Option Nat := match v with | .null => some 0 | .ref q => some (q + 1) | _ => none
def STX : List Nat := "hours sort brings tires mind pride need hat keeps least looks after before even share person in pair works when or and not all many week last most drawn own kept min max ".toList.map (fun c => c.toNat)
def sch (i : Nat) : Int32 := Int32.ofNat (STX.getD i 0)
abbrev Cfg : Type := Nat × List (Option Value) × List Value × Mm
abbrev Rsp : Type := Cfg ⊕ ((Nat × List Value × Cfg) ⊕ Option Value)
def nx (pc : Nat) (los : List (Option Value)) (st : List Value) (σ : Mm) : Option Rsp := some (.inl (pc, los, st, σ))
def gt (pc : Nat) (off : Int) (los : List (Option Value)) (st : List Value) (σ : Mm) : Option Rsp := if 0 ≤ (pc : Int) + off then nx ((pc : Int) + off).toNat los st σ else none
def ldi (i pc : Nat) (los : List (Option Value)) (st : List Value) (σ : Mm) : Option Rsp := match los[i]? with | some (some (.int x)) => nx pc los (.int x :: st) σ | _ => none
def lda (i pc : Nat) (los : List (Option Value)) (st : List Value) (σ : Mm) : Option Rsp := match los[i]? with | some (some (.ref x)) => nx pc los (.ref x :: st) σ | _ => none
def ldl (i pc : Nat) (los : List (Option Value)) (st : List Value) (σ : Mm) : Option Rsp := match los[i]?, los[i + 1]? with | some (some (.long x)), some none => nx pc los (.long x :: st) σ | _, _ => none
def sti (i pc : Nat) (los : List (Option Value)) (st : List Value) (σ : Mm) : Option Rsp := match st with | .int x :: r => if i < los.length then nx pc (los.set i (some (.int x))) r σ else none | _ => none
def sta (i pc : Nat) (los : List (Option Value)) (st : List Value) (σ : Mm) : Option Rsp := match st with | .ref x :: r => if i < los.length then nx pc (los.set i (some (.ref x))) r σ else none | _ => none
def stl (i pc : Nat) (los : List (Option Value)) (st : List Value) (σ : Mm) : Option Rsp := match st with | .long x :: r => if i + 1 < los.length then nx pc ((los.set i (some (.long x))).set (i + 1) none) r σ else none | _ => none
def pus (v : Value) (pc : Nat) (los : List (Option Value)) (st : List Value) (σ : Mm) : Option Rsp := nx pc los (v :: st) σ
def bi (f : Int32 → Int32 → Int32) (pc : Nat) (los : List (Option Value)) (st : List Value) (σ : Mm) : Option Rsp := match st with | .int y :: .int x :: r => nx pc los (.int (f x y) :: r) σ | _ => none
def bl (f : Int64 → Int64 → Int64) (pc : Nat) (los : List (Option Value)) (st : List Value) (σ : Mm) : Option Rsp := match st with | .long y :: .long x :: r => nx pc los (.long (f x y) :: r) σ | _ => none
def bid (f : Int32 → Int32 → Int32) (pc : Nat) (los : List (Option Value)) (st : List Value) (σ : Mm) : Option Rsp := match st with | .int y :: .int x :: r => if y = 0 then none else nx pc los (.int (f x y) :: r) σ | _ => none
def bld (f : Int64 → Int64 → Int64) (pc : Nat) (los : List (Option Value)) (st : List Value) (σ : Mm) : Option Rsp := match st with | .long y :: .long x :: r => if y = 0 then none else nx pc los (.long (f x y) :: r) σ | _ => none
def brz (c : Jvm.ClassFile.Cond) (off : Int) (pc len : Nat) (los : List (Option Value)) (st : List Value) (σ : Mm) : Option Rsp := match st with
  | .int x :: r => if 0 ≤ (pc : Int) + off then (match c with
    | .eq => if x = 0 then nx ((pc : Int) + off).toNat los r σ else nx (pc + len) los r σ
    | .ne => if x = 0 then nx (pc + len) los r σ else nx ((pc : Int) + off).toNat los r σ
    | .lt => if x < 0 then nx ((pc : Int) + off).toNat los r σ else nx (pc + len) los r σ
    | .ge => if 0 ≤ x then nx ((pc : Int) + off).toNat los r σ else nx (pc + len) los r σ
    | .gt => if 0 < x then nx ((pc : Int) + off).toNat los r σ else nx (pc + len) los r σ
    | .le => if x ≤ 0 then nx ((pc : Int) + off).toNat los r σ else nx (pc + len) los r σ) else none
  | _ => none
def brc (c : Jvm.ClassFile.Cond) (off : Int) (pc len : Nat) (los : List (Option Value)) (st : List Value) (σ : Mm) : Option Rsp := match st with
  | .int y :: .int x :: r => if 0 ≤ (pc : Int) + off then (match c with
    | .eq => if x = y then nx ((pc : Int) + off).toNat los r σ else nx (pc + len) los r σ
    | .ne => if x = y then nx (pc + len) los r σ else nx ((pc : Int) + off).toNat los r σ
    | .lt => if x < y then nx ((pc : Int) + off).toNat los r σ else nx (pc + len) los r σ
    | .ge => if y ≤ x then nx ((pc : Int) + off).toNat los r σ else nx (pc + len) los r σ
    | .gt => if y < x then nx ((pc : Int) + off).toNat los r σ else nx (pc + len) los r σ
    | .le => if x ≤ y then nx ((pc : Int) + off).toNat los r σ else nx (pc + len) los r σ) else none
  | _ => none
def gtf (own k pc : Nat) (los : List (Option Value)) (st : List Value) (σ : Mm) : Option Rsp := match st, fld own k with
  | .ref a :: r, some (ci, f) => if a < σ.1 ∧ shp a = (0, ci) then nx pc los ((match knd ci f with | 0 => .int (σ.2.1 a f) | 1 => .int (σ.2.1 a f) | 2 => .long (σ.2.2.1 a f) | _ => rfv (σ.2.2.2 a f)) :: r) σ else none
  | _, _ => none
def ptf (M own k pc : Nat) (los : List (Option Value)) (st : List Value) (σ : Mm) : Option Rsp := match st, fld own k with
  | v :: .ref a :: r, some (ci, f) => if (a < σ.1 ∧ shp a = (0, ci)) ∧ (fnl ci f = false ∨ (min_ M = true ∧ mcl M = ci)) then (match knd ci f, v with
    | 0, .int x => nx pc los r (σ.1, up2 σ.2.1 a f x, σ.2.2.1, σ.2.2.2)
    | 1, .int x => if x = 0 ∨ x = 1 then nx pc los r (σ.1, up2 σ.2.1 a f x, σ.2.2.1, σ.2.2.2) else none
    | 2, .long x => nx pc los r (σ.1, σ.2.1, up2 σ.2.2.1 a f x, σ.2.2.2)
    | 3, .ref q => nx pc los r (σ.1, σ.2.1, σ.2.2.1, up2 σ.2.2.2 a f (q + 1))
    | _, _ => none) else none
  | _, _ => none
/-- an array is read: ints (tag 1), chars (tag 2), longs (tag 3) -/
def ard (tag pc : Nat) (los : List (Option Value)) (st : List Value) (σ : Mm) : Option Rsp := match st with
  | .int i :: .ref a :: r => if (a < σ.1 ∧ (shp a).1 = tag) ∧ inb i (shp a).2 then nx pc los ((if tag = 3 then .long (σ.2.2.1 a (ixn i)) else .int (σ.2.1 a (ixn i))) :: r) σ else none
  | _ => none
/-- the law reads its script, which stands at 1000 -/
def arl (L : Nat) (xs : Nat → Int32) (pc : Nat) (los : List (Option Value)) (st : List Value) (σ : Mm) : Option Rsp := match st with
  | .int i :: .ref 1000 :: r => if inb i L then nx pc los (.int (xs (ixn i)) :: r) σ else none
  | _ => none
def awr (tag pc : Nat) (los : List (Option Value)) (st : List Value) (σ : Mm) : Option Rsp := match st with
  | v :: .int i :: .ref a :: r => if (a < σ.1 ∧ (shp a).1 = tag) ∧ inb i (shp a).2 then (match tag, v with
    | 1, .int x => nx pc los r (σ.1, up2 σ.2.1 a (ixn i) x, σ.2.2.1, σ.2.2.2)
    | 2, .int x => if 0 ≤ x.toInt ∧ x.toInt < 65536 then nx pc los r (σ.1, up2 σ.2.1 a (ixn i) x, σ.2.2.1, σ.2.2.2) else none
    | 3, .long x => nx pc los r (σ.1, σ.2.1, up2 σ.2.2.1 a (ixn i) x, σ.2.2.2)
    | _, _ => none) else none
  | _ => none
def aln (pc : Nat) (los : List (Option Value)) (st : List Value) (σ : Mm) : Option Rsp := match st with
  | .ref a :: r => if a < σ.1 ∧ (shp a).1 ≠ 0 then nx pc los (.int (Int32.ofNat (shp a).2) :: r) σ else none
  | _ => none
def alc (L : Nat) (pc : Nat) (los : List (Option Value)) (st : List Value) (σ : Mm) : Option Rsp := match st with
  | .ref 1000 :: r => nx pc los (.int (Int32.ofNat L) :: r) σ
  | _ => none
def nwa (tag pc : Nat) (los : List (Option Value)) (st : List Value) (σ : Mm) : Option Rsp := match st with
  | .int i :: r => if (σ.1 < NNN ∧ (shp σ.1).1 = tag) ∧ (0 ≤ i.toInt ∧ i.toInt = (shp σ.1).2) then nx pc los (.ref σ.1 :: r) (σ.1 + 1, zr2 σ.2.1 σ.1 0, zr2 σ.2.2.1 σ.1 0, zr2 σ.2.2.2 σ.1 0) else none
  | _ => none
def nwo (own k pc : Nat) (los : List (Option Value)) (st : List Value) (σ : Mm) : Option Rsp := match ncl own k with
  | some ci => if σ.1 < NNN ∧ shp σ.1 = (0, ci) then nx pc los (.ref σ.1 :: st) (σ.1 + 1, zr2 σ.2.1 σ.1 0, zr2 σ.2.2.1 σ.1 0, zr2 σ.2.2.2 σ.1 0) else none
  | none => none
def ctg (st : List Value) : Nat := (st.map (fun v => v.category)).sum
def inv (kind : Nat) (own k pc : Nat) (los : List (Option Value)) (st : List Value) (σ : Mm) : Option Rsp := match cal own k with
  | 0 => none
  | 1 => match st with
    | .ref _ :: r => if kind = 1 ∧ ctg r ≤ 8 then nx pc los r σ else none
    | _ => none
  | 2 => match st with
    | .ref 1001 :: r => if kind = 2 ∧ ctg r ≤ 8 then nx pc los (.int (Int32.ofNat STX.length) :: r) σ else none
    | _ => none
  | 3 => match st with
    | .int i :: .ref 1001 :: r => if (kind = 2 ∧ ctg r ≤ 8) ∧ inb i STX.length then nx pc los (.int (sch (ixn i)) :: r) σ else none
    | _ => none
  | K + 10 => if mst K then (if (kind = 0 ∧ mnp K ≤ st.length) ∧ ctg (st.drop (mnp K)) ≤ 8 then some (.inr (.inl (K, (st.take (mnp K)).reverse, (pc, los, st.drop (mnp K), σ)))) else none)
      else match st.drop (mnp K) with
        | .ref a :: r => if ((kind = (if min_ K then 1 else 2)) ∧ ctg r ≤ 8) ∧ (a < σ.1 ∧ shp a = (0, mcl K)) then some (.inr (.inl (K, .ref a :: (st.take (mnp K)).reverse, (pc, los, r, σ)))) else none
        | _ => none
  | _ => none
def exe (L : Nat) (xs : Nat → Int32) (M pc len : Nat) (i : Instr) (los : List (Option Value)) (st : List Value) (σ : Mm) : Option Rsp := match i with
  | .iconst n => pus (.int (Int32.ofInt n)) (pc + len) los st σ
  | .bipush n => pus (.int (Int8.ofInt n).toInt32) (pc + len) los st σ
  | .sipush n => pus (.int (Int16.ofInt n).toInt32) (pc + len) los st σ
  | .lconst n => pus (.long (Int64.ofNat (n : Nat))) (pc + len) los st σ
  | .ldc k => match cst (mcl M) k with | some (.int v) => pus (.int v) (pc + len) los st σ | some (.ref 1001) => pus (.ref 1001) (pc + len) los st σ | _ => none
  | .ldc_w k => match cst (mcl M) k with | some (.int v) => pus (.int v) (pc + len) los st σ | _ => none
  | .ldc2_w k => match cst (mcl M) k with | some (.long v) => pus (.long v) (pc + len) los st σ | _ => none
  | .iload i => ldi i (pc + len) los st σ
  | .iload_n i => ldi i (pc + len) los st σ
  | .lload i => ldl i (pc + len) los st σ
  | .lload_n i => ldl i (pc + len) los st σ
  | .aload i => lda i (pc + len) los st σ
  | .aload_n i => lda i (pc + len) los st σ
  | .istore i => sti i (pc + len) los st σ
  | .istore_n i => sti i (pc + len) los st σ
  | .lstore i => stl i (pc + len) los st σ
  | .lstore_n i => stl i (pc + len) los st σ
  | .astore i => sta i (pc + len) los st σ
  | .astore_n i => sta i (pc + len) los st σ
  | .iinc i n => match los[i]? with | some (some (.int x)) => nx (pc + len) (los.set i (some (.int (x + Int32.ofInt n)))) st σ | _ => none
  | .iadd => bi (· + ·) (pc + len) los st σ
  | .isub => bi (· - ·) (pc + len) los st σ
  | .imul => bi (· * ·) (pc + len) los st σ
  | .iand => bi (· &&& ·) (pc + len) los st σ
  | .ior => bi (· ||| ·) (pc + len) los st σ
  | .ixor => bi (· ^^^ ·) (pc + len) los st σ
  | .ishl => bi (fun x y => x <<< (y &&& 31)) (pc + len) los st σ
  | .ishr => bi (fun x y => x >>> (y &&& 31)) (pc + len) los st σ
  | .iushr => bi (fun x y => (x.toUInt32 >>> (y.toUInt32 &&& Int32.toUInt32 31)).toInt32) (pc + len) los st σ
  | .idiv => bid (· / ·) (pc + len) los st σ
  | .irem => bid (fun x y => x - x / y * y) (pc + len) los st σ
  | .ineg => match st with | .int x :: r => nx (pc + len) los (.int (-x) :: r) σ | _ => none
  | .ladd => bl (· + ·) (pc + len) los st σ
  | .lsub => bl (· - ·) (pc + len) los st σ
  | .lmul => bl (· * ·) (pc + len) los st σ
  | .land => bl (· &&& ·) (pc + len) los st σ
  | .ldiv => bld (· / ·) (pc + len) los st σ
  | .lrem => bld (fun x y => x - x / y * y) (pc + len) los st σ
  | .i2l => match st with | .int x :: r => nx (pc + len) los (.long x.toInt64 :: r) σ | _ => none
  | .l2i => match st with | .long x :: r => nx (pc + len) los (.int x.toInt32 :: r) σ | _ => none
  | .lcmp => match st with | .long y :: .long x :: r => nx (pc + len) los (.int (lg_cmp x y) :: r) σ | _ => none
  | .dup => match st with | v :: r => if v.category = 1 then nx (pc + len) los (v :: v :: r) σ else none | _ => none
  | .dup2 => match st with | v :: w :: r => if v.category = 1 ∧ w.category = 1 then nx (pc + len) los (v :: w :: v :: w :: r) σ else none | _ => none
  | .pop => match st with | v :: r => if v.category = 1 then nx (pc + len) los r σ else none | _ => none
  | .ifCond c off => brz c off pc len los st σ
  | .if_icmp c off => brc c off pc len los st σ
  | .goto off => gt pc off los st σ
  | .tableswitch d lo hi offs => match st with
    | .int x :: r => if x.toInt < lo ∨ hi < x.toInt then gt pc d los r σ else match offs[(x.toInt - lo).toNat]? with | some o => gt pc o los r σ | none => none
    | _ => none
  | .lookupswitch d ps => match st with
    | .int x :: r => if (ps.toList.zip (ps.toList.drop 1)).all (fun (a, next) => a.1 < next.1) = true then gt pc (Op.lookupswitch.offset ps.toList d x.toInt) los r σ else none
    | _ => none
  | .getfield k => gtf (mcl M) k (pc + len) los st σ
  | .putfield k => ptf M (mcl M) k (pc + len) los st σ
  | .iaload => if M = 301 then arl L xs (pc + len) los st σ else ard 1 (pc + len) los st σ
  | .caload => ard 2 (pc + len) los st σ
  | .laload => ard 3 (pc + len) los st σ
  | .iastore => awr 1 (pc + len) los st σ
  | .castore => awr 2 (pc + len) los st σ
  | .lastore => awr 3 (pc + len) los st σ
  | .arraylength => if M = 301 then alc L (pc + len) los st σ else aln (pc + len) los st σ
  | .newarray .int => nwa 1 (pc + len) los st σ
  | .newarray .char => nwa 2 (pc + len) los st σ
  | .newarray .long => nwa 3 (pc + len) los st σ
  | .new k => nwo (mcl M) k (pc + len) los st σ
  | .invokestatic k => inv 0 (mcl M) k (pc + len) los st σ
  | .invokespecial k => inv 1 (mcl M) k (pc + len) los st σ
  | .invokevirtual k => inv 2 (mcl M) k (pc + len) los st σ
  | .ireturn => match st with | [.int v] => if mrt M = 1 ∨ (mrt M = 2 ∧ (v = 0 ∨ v = 1)) then some (.inr (.inr (some (.int v)))) else none | _ => none
  | .lreturn => match st with | [.long v] => if mrt M = 3 then some (.inr (.inr (some (.long v)))) else none | _ => none
  | .return_ => match st with | [] => if mrt M = 0 then some (.inr (.inr none)) else none | _ => none
  | _ => none
def iln (i : Instr) (len : Nat) : Nat := match i with
  | .tableswitch .. => len | .lookupswitch .. => len
  | .bipush _ => 2 | .ldc _ => 2 | .iload _ => 2 | .lload _ => 2 | .aload _ => 2 | .istore _ => 2 | .lstore _ => 2 | .astore _ => 2 | .newarray _ => 2
  | .sipush _ => 3 | .ldc_w _ => 3 | .ldc2_w _ => 3 | .iinc .. => 3 | .ifCond .. => 3 | .if_icmp .. => 3 | .goto _ => 3 | .getfield _ => 3 | .putfield _ => 3 | .new _ => 3 | .invokestatic _ => 3 | .invokespecial _ => 3 | .invokevirtual _ => 3
  | _ => 1
def stp (L : Nat) (xs : Nat → Int32) (M pc : Nat) (los : List (Option Value)) (st : List Value) (σ : Mm) : Option Rsp := match decode (mcd M) pc with
  | .ok (i, len) => if len = iln i len then exe L xs M pc len i los st σ else none
  | .error _ => none
def opn (As : List Value) : Nat := match As with | _ :: .int x :: _ => ixn x | _ => 0
def rka (K : Nat) (As : List Value) : Nat := mrk K + (if mrc K then 8 * (8 - opn As) else 0)
def lay1 (As : List Value) : List (Option Value) := As.flatMap (fun v => if v.category = 2 then [some v, none] else [some v])
def lay (n : Nat) (As : List Value) : List (Option Value) := lay1 As ++ List.replicate (n - (lay1 As).length) none
def run (L : Nat) (xs : Nat → Int32) : Nat → Nat → Nat → Nat → List (Option Value) → List Value → Mm → Option (Option Value × Mm)
  | 0, _, _, _, _, _, _ => none
  | n + 1, ρ, M, pc, los, st, σ => match stp L xs M pc los st σ with
    | none => none
    | some (.inl (pc1, los1, st1, σ1)) => run L xs n ρ M pc1 los1 st1 σ1
    | some (.inr (.inl (K, As, pc1, los1, st1, σ1))) => if rka K As < ρ ∧ (lay1 As).length ≤ mmx K then (match run L xs n (rka K As) K 0 (lay (mmx K) As) [] σ1 with
        | some (v, σ2) => run L xs n ρ M pc1 los1 (v.toList ++ st1) σ2
        | none => none) else none
    | some (.inr (.inr v)) => some (v, σ)
/-- from here it comes to that answer -/
def Ev (L : Nat) (xs : Nat → Int32) (ρ M pc : Nat) (los : List (Option Value)) (st : List Value) (σ : Mm) (r : Option Value × Mm) : Prop := ∃ n, run L xs n ρ M pc los st σ = some r
/-- the method K, called so, comes to that answer -/
def Em (L : Nat) (xs : Nat → Int32) (K : Nat) (As : List Value) (σ : Mm) (r : Option Value × Mm) : Prop := Ev L xs (rka K As) K 0 (lay (mmx K) As) [] σ r
theorem run_up {L : Nat} {xs : Nat → Int32} : ∀ (n ρ M pc : Nat) (los : List (Option Value)) (st : List Value) (σ : Mm) (r : Option Value × Mm), run L xs n ρ M pc los st σ = some r → run L xs (n + 1) ρ M pc los st σ = some r := by
  intro n
  induction n with
  | zero => intro ρ M pc los st σ r h; simp [run] at h
  | succ n ih =>
    intro ρ M pc los st σ r h
    rw [run] at h ⊢
    cases hs : stp L xs M pc los st σ with
    | none => rw [hs] at h; simp at h
    | some q =>
      rw [hs] at h
      rcases q with ⟨pc1, los1, st1, σ1⟩ | ⟨K, As, pc1, los1, st1, σ1⟩ | v
      · exact ih _ _ _ _ _ _ _ h
      · simp only at h ⊢
        by_cases hr : rka K As < ρ ∧ (lay1 As).length ≤ mmx K
        · rw [if_pos hr] at h ⊢
          cases hk : run L xs n (rka K As) K 0 (lay (mmx K) As) [] σ1 with
          | none => rw [hk] at h; simp at h
          | some w =>
            rw [hk] at h
            rw [ih _ _ _ _ _ _ _ hk]
            exact ih _ _ _ _ _ _ _ h
        · rw [if_neg hr] at h; simp at h
      · exact h
theorem run_le {L : Nat} {xs : Nat → Int32} {n m : Nat} (h : n ≤ m) {ρ M pc : Nat} {los : List (Option Value)} {st : List Value} {σ : Mm} {r : Option Value × Mm} (hr : run L xs n ρ M pc los st σ = some r) : run L xs m ρ M pc los st σ = some r := by
  obtain ⟨d, rfl⟩ := Nat.le.dest h
  induction d with
  | zero => exact hr
  | succ d ih => exact run_up _ _ _ _ _ _ _ _ (ih (by omega))
theorem Ev.one {L : Nat} {xs : Nat → Int32} {ρ M pc : Nat} {los : List (Option Value)} {st : List Value} {σ : Mm} {r1 r2 : Option Value × Mm} (h1 : Ev L xs ρ M pc los st σ r1) (h2 : Ev L xs ρ M pc los st σ r2) : r1 = r2 := by
  obtain ⟨n, h1⟩ := h1
  obtain ⟨m, h2⟩ := h2
  have e1 := run_le (Nat.le_max_left n m) h1
  have e2 := run_le (Nat.le_max_right n m) h2
  exact Option.some.inj (e1.symm.trans e2)
theorem Em.iff {L : Nat} {xs : Nat → Int32} {K : Nat} {As : List Value} {σ : Mm} {r0 r : Option Value × Mm} (h : Em L xs K As σ r0) : Em L xs K As σ r ↔ r = r0 := ⟨fun h2 => Ev.one h2 h, fun e => e ▸ h⟩
theorem ev_nx {L : Nat} {xs : Nat → Int32} {ρ M pc pc1 : Nat} {los los1 : List (Option Value)} {st st1 : List Value} {σ σ1 : Mm} {r : Option Value × Mm} (h : stp L xs M pc los st σ = some (.inl (pc1, los1, st1, σ1))) : Ev L xs ρ M pc los st σ r ↔ Ev L xs ρ M pc1 los1 st1 σ1 r := by
  constructor
  · rintro ⟨n, hn⟩
    cases n with
    | zero => simp [run] at hn
    | succ n => rw [run, h] at hn; exact ⟨n, hn⟩
  · rintro ⟨n, hn⟩
    exact ⟨n + 1, by rw [run, h]; exact hn⟩
theorem ev_no {L : Nat} {xs : Nat → Int32} {ρ M pc : Nat} {los : List (Option Value)} {st : List Value} {σ : Mm} {r : Option Value × Mm} (h : stp L xs M pc los st σ = none) : Ev L xs ρ M pc los st σ r ↔ False := by
  constructor
  · rintro ⟨n, hn⟩
    cases n with
    | zero => simp [run] at hn
    | succ n => rw [run, h] at hn; simp at hn
  · exact False.elim
theorem ev_rt {L : Nat} {xs : Nat → Int32} {ρ M pc : Nat} {los : List (Option Value)} {st : List Value} {σ : Mm} {v : Option Value} {r : Option Value × Mm} (h : stp L xs M pc los st σ = some (.inr (.inr v))) : Ev L xs ρ M pc los st σ r ↔ r = (v, σ) := by
  constructor
  · rintro ⟨n, hn⟩
    cases n with
    | zero => simp [run] at hn
    | succ n => rw [run, h] at hn; exact (Option.some.inj hn).symm
  · rintro rfl
    exact ⟨1, by rw [run, h]⟩
theorem ev_cl {L : Nat} {xs : Nat → Int32} {ρ M pc pc1 K : Nat} {As : List Value} {los los1 : List (Option Value)} {st st1 : List Value} {σ σ1 : Mm} {r : Option Value × Mm} (h : stp L xs M pc los st σ = some (.inr (.inl (K, As, pc1, los1, st1, σ1)))) :
    Ev L xs ρ M pc los st σ r ↔ (rka K As < ρ ∧ (lay1 As).length ≤ mmx K) ∧ ∃ v n2 I2 L2 R2, Em L xs K As σ1 (v, n2, I2, L2, R2) ∧ Ev L xs ρ M pc1 los1 (v.toList ++ st1) (n2, I2, L2, R2) r := by
  constructor
  · rintro ⟨n, hn⟩
    cases n with
    | zero => simp [run] at hn
    | succ n =>
      rw [run, h] at hn
      simp only at hn
      by_cases hr : rka K As < ρ ∧ (lay1 As).length ≤ mmx K
      · rw [if_pos hr] at hn
        cases hk : run L xs n (rka K As) K 0 (lay (mmx K) As) [] σ1 with
        | none => rw [hk] at hn; simp at hn
        | some w =>
          rw [hk] at hn
          exact ⟨hr, w.1, w.2.1, w.2.2.1, w.2.2.2.1, w.2.2.2.2, ⟨n, hk⟩, ⟨n, hn⟩⟩
      · rw [if_neg hr] at hn; simp at hn
  · rintro ⟨hr, v, n2, I2, L2, R2, ⟨n, hk⟩, ⟨k, hn⟩⟩
    refine ⟨max n k + 1, ?_⟩
    rw [run, h]
    simp only
    rw [if_pos hr, run_le (Nat.le_max_left n k) hk]
    exact run_le (Nat.le_max_right n k) hn
