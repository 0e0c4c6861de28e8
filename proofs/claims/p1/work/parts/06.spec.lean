/-! what each call answers on a new object -/
theorem sp_in_c {v lo hi : Int32} {lo' hi' : Int64} (h1 : lo.toInt64 = lo') (h2 : hi.toInt64 = hi') : sp_in v.toInt64 lo' hi' = if v < lo then 0 else if hi < v then 0 else 1 := by
  subst h1
  subst h2
  exact sp_in_w v lo hi
def sp_end (n : Int32) : Int32 := if n = 0 then 0 else -1
def sp_fault (n : Int32) : Int32 := if n = 0 then 0 else -1
def sp_told1 (n : Int32) : Int32 := if n = 30 then 1 else -1
def sp_told (n : Int32) : Int32 := if n = 0 then 0 else if n = 1 then 0 else if n = 2 then 10 else if n = 3 then 0 else if n = 4 then 0 else if n = 5 then 1 else if n = 30 then 1 else -1
def sp_feeling (w : Int32) : Int32 := if w < 0 then -2 else if 9999 < w then -2 else w
def sp_press (b n : Int32) : Int32 := if b = -1 then (if n < 0 then -2 else if 9999 < n then -2 else 0) else -2
def sp_by (n : Int32) : Int32 := if n < 1 then -2 else if 9999 < n then -2 else 1
def sp_guess (n : Int32) : Int32 := if n < 0 then -2 else if 999 < n then -2 else -4
def sp_count (n : Int32) : Int32 := if n = 0 then 0 else if n = 1 then 0 else if n = 2 then 1 else if n = 3 then 0 else -1
/-- a text constant of a class has a place -/
def vq_SR (own : String) (k : Nat) (tx : String) (U : State) : Prop := ∃ a : Nat, vk_R own k tx a U
theorem vq_SR.same {own tx : String} {k : Nat} {u U : State} (hv : U.vm = u.vm) (h : vq_SR own k tx u) : vq_SR own k tx U := by
  obtain ⟨a, ha⟩ := h
  exact ⟨a, vk_R.same hv ha⟩
theorem vq_SR.warm {own tx : String} {k : Nat} {s U : State} (hW : s.WarmedH U.vm) (h : vq_SR own k tx s) : vq_SR own k tx U := by
  obtain ⟨a, ha⟩ := h
  exact ⟨a, vk_R.warm hW ha⟩
