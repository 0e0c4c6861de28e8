def tnum (f : Nat → Int32) (n c : Nat) : Int := nvd f (tkA f n c) (tkE f n c - tkA f n c)
def twrd (f : Nat → Int32) (n c : Nat) : Int := wcd f (tkA f n c) (tkE f n c - tkA f n c)
theorem tnum_r {f : Nat → Int32} {n c : Nat} (h : tkS f n c = 2) : 0 ≤ tnum f n c ∧ tnum f n c ≤ 9999 := by
  have q := tk_num h
  have z := nvd_r (f := f) (a := tkA f n c) (tkE f n c - tkA f n c) (fun i h1 h2 => tk_dig h h1 (by omega))
  unfold tnum
  have h4 : tkE f n c - tkA f n c ≤ 4 := q.2.2.2.1
  generalize tkE f n c - tkA f n c = d at z h4 ⊢
  match d, h4, z with
  | 0, _, z => have : (10 : Int) ^ 0 = 1 := rfl; omega
  | 1, _, z => have : (10 : Int) ^ 1 = 10 := rfl; omega
  | 2, _, z => have : (10 : Int) ^ 2 = 100 := rfl; omega
  | 3, _, z => have : (10 : Int) ^ 3 = 1000 := rfl; omega
  | 4, _, z => have : (10 : Int) ^ 4 = 10000 := rfl; omega
  | d + 5, h4, _ => omega
/-- the text's parts, each from the place c on: what is read and the place behind it, or a FAULT's kind and place -/
def pnum (f : Nat → Int32) (n : Nat) (lo hi : Int) (c : Nat) : Except (Int × Int) (Int × Nat) :=
  if tkS f n c = 2 then (if lo ≤ tnum f n c ∧ tnum f n c ≤ hi then .ok (tnum f n c, tkE f n c) else .error (2, (tkA f n c : Int))) else .error (1, (tkA f n c : Int))
def psem (f : Nat → Int32) (n : Nat) (c : Nat) : Except (Int × Int) Nat :=
  if tkS f n c = 3 then .ok (tkE f n c) else .error (1, (tkA f n c : Int))
def isW (f : Nat → Int32) (n : Nat) (k : Int) (c : Nat) : Prop := tkS f n c = 1 ∧ twrd f n c = k
def pwrd (f : Nat → Int32) (n : Nat) (k : Int) (c : Nat) : Except (Int × Int) Nat :=
  if tkS f n c = 1 ∧ twrd f n c = k then .ok (tkE f n c) else .error (1, (tkA f n c : Int))
def inn (nm : Nat → Int) (w : Int) : Nat → Bool
  | 0 => false
  | m + 1 => inn nm w m || decide (nm m = w)
theorem inn_t {nm : Nat → Int} {w : Int} : ∀ {m i : Nat}, i < m → nm i = w → inn nm w m = true
  | 0, i, h, _ => absurd h (Nat.not_lt_zero i)
  | m + 1, i, h, e => by
    unfold inn
    by_cases hi : i = m
    · subst hi; simp [e]
    · rw [inn_t (show i < m by omega) e]; rfl
theorem inn_f {nm : Nat → Int} {w : Int} : ∀ {m : Nat}, (∀ i, i < m → ¬ nm i = w) → inn nm w m = false
  | 0, _ => rfl
  | m + 1, h => by
    unfold inn
    rw [inn_f (fun i hi => h i (by omega))]
    simp [h m (by omega)]
def pnam (f : Nat → Int32) (n m : Nat) (nm : Nat → Int) (c : Nat) : Except (Int × Int) (Int × Nat) :=
  if tkS f n c = 1 then (if inn nm (twrd f n c) m = true then .error (3, (tkA f n c : Int)) else .ok (twrd f n c, tkE f n c)) else .error (1, (tkA f n c : Int))
def upz (g : Nat → Int) (k : Nat) (v : Int) : Nat → Int := fun i => if i = k then v else g i
/-- whole N ; -/
def pwho (f : Nat → Int32) (n c : Nat) : Except (Int × Int) (Int × Nat) :=
  if tkS f n c = 1 ∧ twrd f n c = 24395141 then
    match pnum f n 2 10 (tkE f n c) with
    | .error e => .error e
    | .ok (v, c1) => match psem f n c1 with
      | .error e => .error e
      | .ok c2 => .ok (v, c2)
  else .ok (10, c)
/-- NAME brings N ; -/
def psgn (f : Nat → Int32) (n m : Nat) (nm : Nat → Int) (c : Nat) : Except (Int × Int) (Int × Int × Nat) :=
  match pnam f n m nm c with
  | .error e => .error e
  | .ok (w, c1) => match pwrd f n 86292723 c1 with
    | .error e => .error e
    | .ok c2 => match pnum f n 0 999 c2 with
      | .error e => .error e
      | .ok (v, c3) => match psem f n c3 with
        | .error e => .error e
        | .ok c4 => .ok (w, v, c4)
def psgs (f : Nat → Int32) (n : Nat) : Nat → Nat → (Nat → Int) → (Nat → Int) → Nat → Except (Int × Int) (Nat × (Nat → Int) × Nat)
  | 0, _, _, _, _ => .error (0, 0)
  | d + 1, m, nm, br, c =>
    if tkS f n c = 1 ∧ twrd f n c = 632046 then
      (if m = 4 then .error (4, (tkA f n c : Int)) else
        match psgn f n m nm (tkE f n c) with
        | .error e => .error e
        | .ok (w, v, c4) => psgs f n d (m + 1) (upz nm m w) (upz br m v) c4)
    else if 2 ≤ m then .ok (m, br, c) else .error (1, (tkA f n c : Int))
/-- the CHANCES of WORK a: s of them stand, sum is theirs -/
def pchs (f : Nat → Int32) (n : Nat) (wh : Int) (a : Nat) : Nat → Nat → Int → (Nat → Int) → Nat → Except (Int × Int) ((Nat → Int) × Nat)
  | 0, _, _, ch, c => .ok (ch, c)
  | d + 1, s, sum, ch, c =>
    match pnum f n 0 wh c with
    | .error e => .error e
    | .ok (v, c1) => if d = 0 ∧ ¬ sum + v = wh then .error (5, (tkA f n c : Int)) else pchs f n wh a d (s + 1) (sum + v) (upz ch (4 * a + s) v) c1
/-- NAME costs N chances N .. ; -/
def pwrk (f : Nat → Int32) (n : Nat) (wh : Int) (sg m : Nat) (nm ch : Nat → Int) (c : Nat) : Except (Int × Int) (Int × Int × (Nat → Int) × Nat) :=
  match pnam f n m nm c with
  | .error e => .error e
  | .ok (w, c1) => match pwrd f n 3657363 c1 with
    | .error e => .error e
    | .ok c2 => match pnum f n 0 99 c2 with
      | .error e => .error e
      | .ok (v, c3) => match pwrd f n 3491171507 c3 with
        | .error e => .error e
        | .ok c4 => match pchs f n wh m sg 0 0 ch c4 with
          | .error e => .error e
          | .ok (ch', c5) => match psem f n c5 with
            | .error e => .error e
            | .ok c6 => .ok (w, v, ch', c6)
def pwks (f : Nat → Int32) (n : Nat) (wh : Int) (sg : Nat) : Nat → Nat → (Nat → Int) → (Nat → Int) → (Nat → Int) → Nat → Except (Int × Int) (Nat × (Nat → Int) × (Nat → Int) × Nat)
  | 0, _, _, _, _, _ => .error (0, 0)
  | d + 1, m, nm, co, ch, c =>
    if tkS f n c = 1 ∧ twrd f n c = 769611 then
      (if m = 5 then .error (4, (tkA f n c : Int)) else
        match pwrk f n wh sg m nm ch (tkE f n c) with
        | .error e => .error e
        | .ok (w, v, ch', c4) => pwks f n wh sg d (m + 1) (upz nm m w) (upz co m v) ch' c4)
    else if 2 ≤ m then .ok (m, co, ch, c) else .error (1, (tkA f n c : Int))
def z0 : Nat → Int := fun _ => 0
/-- MARK RATE, where m RATES stand -/
def pstp (f : Nat → Int32) (n m : Nat) (ra mr : Nat → Int) (c : Nat) : Except (Int × Int) (Int × Int × Nat) :=
  match pnum f n (if m < 2 then 1 else mr (m - 2) + 1) 99 c with
  | .error e => .error e
  | .ok (v, c1) => if 3 ≤ m then .error (4, (tkA f n c : Int)) else
    match pnum f n 1 (ra (m - 1) - 1) c1 with
    | .error e => .error e
    | .ok (r, c2) => .ok (v, r, c2)
/-- MARK RATE .. behind the first RATE: m RATES stand -/
def psts (f : Nat → Int32) (n : Nat) : Nat → Nat → (Nat → Int) → (Nat → Int) → Nat → Except (Int × Int) (Nat × (Nat → Int) × (Nat → Int) × Nat)
  | 0, _, _, _, _ => .error (0, 0)
  | d + 1, m, ra, mr, c =>
    if tkS f n c = 2 then
      match pstp f n m ra mr c with
      | .error e => .error e
      | .ok (v, r, c2) => psts f n d (m + 1) (upz ra m r) (upz mr (m - 1) v) c2
    else .ok (m, ra, mr, c)
/-- RATE, steps, ; -/
def pfel (f : Nat → Int32) (n c : Nat) : Except (Int × Int) (Nat × (Nat → Int) × (Nat → Int) × Nat) :=
  match pnum f n 1 5 c with
  | .error e => .error e
  | .ok (v, c1) => match psts f n 3 1 (upz z0 0 v) z0 c1 with
    | .error e => .error e
    | .ok (m, ra, mr, c2) => match psem f n c2 with
      | .error e => .error e
      | .ok c3 => .ok (m, ra, mr, c3)
/-- N ; behind else or least -/
def pone (f : Nat → Int32) (n c : Nat) : Except (Int × Int) (Int × Nat) :=
  match pnum f n 0 99 c with
  | .error e => .error e
  | .ok (v, c1) => match psem f n c1 with
    | .error e => .error e
    | .ok c2 => .ok (v, c2)
/-- such a REST, where h is 1 if it stands already -/
def ponc (f : Nat → Int32) (n : Nat) (h : Int) (c : Nat) : Except (Int × Int) (Int × Nat) :=
  if h = 1 then .error (3, (tkA f n c : Int)) else pone f n (tkE f n c)
def pfe1 (f : Nat → Int32) (n : Nat) (h : Int) (c : Nat) : Except (Int × Int) (Nat × (Nat → Int) × (Nat → Int) × Nat) :=
  if h = 1 then .error (3, (tkA f n c : Int)) else pfel f n (tkE f n c)
/-- the RESTS: which stand already, what they told -/
def prst (f : Nat → Int32) (n : Nat) : Nat → Int → Int → Int → Int → Int → Nat → (Nat → Int) → (Nat → Int) → Nat → Except (Int × Int) (Int × Int × Nat × (Nat → Int) × (Nat → Int))
  | 0, _, _, _, _, _, _, _, _, _ => .error (0, 0)
  | d + 1, he, hl, hf, el, le, m, ra, mr, c =>
    if tkS f n c = 0 then .ok (el, le, m, ra, mr)
    else if tkS f n c = 1 ∧ twrd f n c = 176741 then
      match ponc f n he c with
      | .error e => .error e
      | .ok (v, c1) => prst f n d 1 hl hf v le m ra mr c1
    else if tkS f n c = 1 ∧ twrd f n c = 12748404 then
      match ponc f n hl c with
      | .error e => .error e
      | .ok (v, c1) => prst f n d he 1 hf el v m ra mr c1
    else if tkS f n c = 1 ∧ twrd f n c = 201900 then
      match pfe1 f n hf c with
      | .error e => .error e
      | .ok (m', ra', mr', c1) => prst f n d he hl 1 el le m' ra' mr' c1
    else .error (1, (tkA f n c : Int))
/-- the whole text from c on: whole, SIGNS, brings, WORKS, costs, chances, else, least, RATES, rates, marks -/
def phr (f : Nat → Int32) (n c : Nat) : Except (Int × Int) (Int × Nat × (Nat → Int) × Nat × (Nat → Int) × (Nat → Int) × Int × Int × Nat × (Nat → Int) × (Nat → Int)) :=
  match pwho f n c with
  | .error e => .error e
  | .ok (wh, c1) => match psgs f n 5 0 z0 z0 c1 with
    | .error e => .error e
    | .ok (sg, br, c2) => match pwks f n wh sg 6 0 z0 z0 z0 c2 with
      | .error e => .error e
      | .ok (wk, co, ch, c3) => match prst f n 4 0 0 0 0 0 1 (upz z0 0 1) z0 c3 with
        | .error e => .error e
        | .ok (el, le, m, ra, mr) => .ok (wh, sg, br, wk, co, ch, el, le, m, ra, mr)
