abbrev o_w (S : SP) (k : Nat) : Int32 := hp_vi S.1 45 (S.2.2 k) 0
abbrev o_d (S : SP) (k : Nat) : Int32 := hp_vi S.1 45 (S.2.2 k) 1
/-- the least offcut that is enough, so far -/
def bo_ (S : SP) (w d : Int32) : Nat → Option Nat
  | 0 => none
  | k + 1 => if (w ≤ o_w S k ∧ d ≤ o_d S k) ∧ (∀ b, bo_ S w d k = some b → (o_w S k < o_w S b ∨ (o_w S k = o_w S b ∧ o_d S k < o_d S b))) then some k else bo_ S w d k
theorem bo_lt (S : SP) (w d : Int32) : ∀ k b, bo_ S w d k = some b → b < k
  | 0, b, h => by cases h
  | k + 1, b, h => by
    unfold bo_ at h
    split at h
    · cases h; omega
    · have := bo_lt S w d k b h
      omega
def tk_ (S : SP) (b : Nat) : SP := (hp_seti S.1 40 0 6 (hp_vi S.1 40 0 6 + o_w S b * o_d S b), c_up S.2.1 5 (nn_ S 5 - 1), fun k => if k < b then S.2.2 k else S.2.2 (k + 1))
def op_takeOffcut (S : SP) (w d : Int32) : Nat × Int32 × SP := if (50 ≤ w ∧ w ≤ 4000) ∧ (1 ≤ d ∧ d ≤ 20) then (match bo_ S w d (nn_ S 5) with | none => (2, 0, S) | some b => (0, o_w S b, tk_ S b)) else (1, 0, S)
