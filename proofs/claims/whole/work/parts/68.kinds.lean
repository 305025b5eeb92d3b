/-! rules: what a row of codes says: kinds and values -/
abbrev isAsk (m : Nat) : Prop := (7 ≤ m ∧ m ≤ 10) ∨ m = 18 ∨ (30 ≤ m ∧ m ≤ 32)
def tyTwo (x y : Bool) (z : Bool) : List Bool → Option (List Bool)
  | a :: b :: ts => if a = x ∧ b = y then some (z :: ts) else none
  | _ => none
def tyS (m : Nat) (ts : List Bool) : Option (List Bool) :=
  if 1000 ≤ m ∧ m ≤ 10999 ∧ ts.length < 64 then some (false :: ts)
  else if m = 17 ∧ ts.length < 64 then some (true :: ts)
  else if isAsk m ∧ ts.length < 64 then some (false :: ts)
  else if m = 16 ∧ ts.head? = some true then some ts
  else if 1 ≤ m ∧ m ≤ 6 then tyTwo false false false ts
  else if 11 ≤ m ∧ m ≤ 13 then tyTwo false false true ts
  else if m = 14 ∨ m = 15 then tyTwo true true true ts
  else none
def vaS (ask : Nat → Int) (m : Nat) (s : List Int) : List Int :=
  if 1000 ≤ m then ((m - 1000 : Nat) : Int) :: s
  else if m = 17 then 1 :: s
  else if isAsk m then ask m :: s
  else if m = 16 then (1 - s.headD 0) :: s.tail
  else jnI m (s.tail.headD 0) (s.headD 0) :: s.tail.tail
def okT : List Bool → List Int → Prop
  | [], [] => True
  | t :: ts, v :: s => (b20 v ∧ (t = true → v = 0 ∨ v = 1)) ∧ okT ts s
  | _, _ => False
def tyRun (cd : Nat → Nat) : Nat → Nat → List Bool → Option (List Bool)
  | _, 0, ts => some ts
  | j, k + 1, ts => (tyS (cd j) ts).bind (tyRun cd (j + 1) k)
def vaRun (ask : Nat → Int) (cd : Nat → Nat) : Nat → Nat → List Int → List Int
  | _, 0, s => s
  | j, k + 1, s => vaRun ask cd (j + 1) k (vaS ask (cd j) s)
/-- values lie in a row, the newest last -/
def stI (row : Nat → Int32) : List Int → Prop
  | [] => True
  | v :: s => row s.length = iZ v ∧ stI row s
def stL (row : Nat → Int64) : List Int → Prop
  | [] => True
  | v :: s => row s.length = lZ v ∧ stL row s
theorem stI_of {f g : Nat → Int32} : ∀ {s : List Int}, (∀ k, k < s.length → g k = f k) → stI f s → stI g s
  | [], _, _ => trivial
  | _ :: s, h, ⟨a, b⟩ => ⟨(h _ (Nat.lt_succ_self _)).trans a, stI_of (fun k hk => h k (Nat.lt_succ_of_lt hk)) b⟩
theorem stL_of {f g : Nat → Int64} : ∀ {s : List Int}, (∀ k, k < s.length → g k = f k) → stL f s → stL g s
  | [], _, _ => trivial
  | _ :: s, h, ⟨a, b⟩ => ⟨(h _ (Nat.lt_succ_self _)).trans a, stL_of (fun k hk => h k (Nat.lt_succ_of_lt hk)) b⟩
theorem okT_len : ∀ {ts : List Bool} {s : List Int}, okT ts s → ts.length = s.length
  | [], [], _ => rfl
  | _ :: _, _ :: _, ⟨_, h⟩ => congrArg (· + 1) (okT_len h)
theorem cdN_big {m : Nat} (h : 1000 ≤ m) : cdN m = m - 1000 := by
  unfold cdN
  split <;> first | omega | rfl
