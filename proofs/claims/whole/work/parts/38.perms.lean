/-! ORDERS OF COLUMNS -/
def one (b : Nat → Nat → Bool) (x y : Nat) : Nat := if b x y = true then 1 else 0
def bmk (b : Nat → Nat → Bool) (m : Nat) : Nat → Nat
  | 0 => 0
  | k + 1 => if k ≠ m ∧ b k m = true then bmk b m k ||| 2 ^ k else bmk b m k
theorem bmk_bit {b : Nat → Nat → Bool} {m x : Nat} : ∀ n, (bmk b m n).testBit x = true ↔ x < n ∧ x ≠ m ∧ b x m = true := by
  intro n
  induction n with
  | zero =>
    rw [bmk, Nat.zero_testBit]
    exact ⟨fun h => by simp at h, fun h => by omega⟩
  | succ n ih =>
    rw [bmk]
    split
    next q =>
      rw [Nat.testBit_or, Bool.or_eq_true, ih, Nat.testBit_two_pow]
      constructor
      · rintro (h | h)
        · exact ⟨by omega, h.2⟩
        · have : n = x := by simpa using h
          subst this
          exact ⟨by omega, q⟩
      · intro h
        by_cases e : x = n
        · subst e; exact Or.inr (by simp)
        · exact Or.inl ⟨by omega, h.2⟩
    next q =>
      rw [ih]
      constructor
      · intro h; exact ⟨by omega, h.2⟩
      · intro h
        by_cases e : x = n
        · subst e; exact absurd h.2 q
        · exact ⟨by omega, h.2⟩
theorem bmk_lt {b : Nat → Nat → Bool} {m : Nat} : ∀ n, n ≤ 6 → bmk b m n < 64 := by
  intro n
  induction n with
  | zero => intro _; rw [bmk]; omega
  | succ n ih =>
    intro hn
    rw [bmk]
    split
    · exact Nat.or_lt_two_pow (n := 6) (ih (by omega)) (Nat.pow_lt_pow_right (by omega) (by omega))
    · exact ih (by omega)
def cost (c : Nat) (b : Nat → Nat → Bool) (m left : Nat) : Nat := bc 13 (bmk b m c &&& left)
theorem bc_in : ∀ x, x < 64 → ∀ m, m < 6 → x.testBit m = false → bc 13 (x ||| 2 ^ m) = bc 13 x + 1 := by decide +kernel
theorem bc_full : ∀ c, c < 7 → ∀ x, x < 2 ^ c → (bc 13 x ≤ c ∧ (bc 13 x = c → x = 2 ^ c - 1)) := by decide +kernel
theorem bc_all : ∀ c, c < 7 → bc 13 (2 ^ c - 1) = c := by decide +kernel
theorem or_in : ∀ c, c < 7 → ∀ x, x < 2 ^ c → ∀ m, m < c → x ||| 2 ^ m < 2 ^ c := fun c hc x hx m hm => Nat.or_lt_two_pow hx (Nat.pow_lt_pow_right (by omega) hm)
theorem p2_64 {c : Nat} (h : c ≤ 6) : 2 ^ c ≤ 64 := (by decide : ∀ c, c < 7 → 2 ^ c ≤ 64) c (by omega)
def VP (c : Nat) (b : Nat → Nat → Bool) (V : Nat → Nat) : Prop := V (2 ^ c - 1) = 0 ∧ ∀ left, left < 2 ^ c - 1 → (∀ m, m < c → left.testBit m = false → V left ≤ cost c b m left + V (left ||| 2 ^ m)) ∧ ∃ m, m < c ∧ left.testBit m = false ∧ V left = cost c b m left + V (left ||| 2 ^ m)
/-- the orders of those that are not yet left, in their order -/
def pms (c : Nat) : Nat → Nat → List (List Nat)
  | 0, _ => [[]]
  | n + 1, left => (List.range c).flatMap (fun m => if left.testBit m = true then [] else (pms c n (left ||| 2 ^ m)).map (fun l => m :: l))
def cst (c : Nat) (b : Nat → Nat → Bool) : Nat → List Nat → Nat
  | _, [] => 0
  | left, m :: l => cost c b m left + cst c b (left ||| 2 ^ m) l
theorem pms_mem {c n left : Nat} {y : List Nat} (h : y ∈ pms c (n + 1) left) : ∃ m y2, m < c ∧ left.testBit m = false ∧ y2 ∈ pms c n (left ||| 2 ^ m) ∧ y = m :: y2 := by
  rw [pms, List.mem_flatMap] at h
  obtain ⟨m, hm, h⟩ := h
  rw [List.mem_range] at hm
  split at h
  next q => cases h
  next q =>
    rw [List.mem_map] at h
    obtain ⟨y2, h1, h2⟩ := h
    exact ⟨m, y2, hm, by simpa using q, h1, h2.symm⟩
theorem left_lt {c n left : Nat} (hc : c ≤ 6) (hl : left < 2 ^ c) (hn : bc 13 left + (n + 1) = c) : left < 2 ^ c - 1 := by
  have h := bc_all c (by omega)
  by_cases e : left = 2 ^ c - 1
  · rw [e] at hn; omega
  · omega
theorem V_le {c : Nat} {b : Nat → Nat → Bool} {V : Nat → Nat} (hc : c ≤ 6) (hV : VP c b V) : ∀ n left, left < 2 ^ c → bc 13 left + n = c → ∀ y, y ∈ pms c n left → V left ≤ cst c b left y := by
  intro n
  induction n with
  | zero =>
    intro left hl hn y hy
    rw [(bc_full c (by omega) left hl).2 (by omega), hV.1]
    exact Nat.zero_le _
  | succ n ih =>
    intro left hl hn y hy
    obtain ⟨m, y2, hm, hb, h2, rfl⟩ := pms_mem hy
    have p6 := p2_64 hc
    have h3 := (hV.2 left (left_lt hc hl hn)).1 m hm hb
    have h4 := ih (left ||| 2 ^ m) (or_in c (by omega) left hl m hm) (by rw [bc_in left (by omega) m (by omega) hb]; omega) y2 h2
    rw [cst]
    omega
def FM {α : Type} (f : α → Nat) (L : List α) (x : α) : Prop := ∃ pre post, L = pre ++ x :: post ∧ (∀ y, y ∈ pre → f x < f y) ∧ ∀ y, y ∈ post → f x ≤ f y
theorem FM_un {α : Type} {f : α → Nat} {L : List α} {x y : α} (h : FM f L x) (h2 : FM f L y) : x = y := by
  obtain ⟨p1, q1, e1, a1, b1⟩ := h
  obtain ⟨p2, q2, e2, a2, b2⟩ := h2
  rw [e1, List.append_eq_append_iff] at e2
  rcases e2 with ⟨z, h1, h2⟩ | ⟨z, h1, h2⟩
  · cases z with
    | nil => simp at h2; exact h2.1
    | cons w z =>
      simp at h2
      have g1 := a2 x (by rw [h1, h2.1]; simp)
      have g2 := b1 y (by rw [h2.2]; simp)
      omega
  · cases z with
    | nil => simp at h2; exact h2.1.symm
    | cons w z =>
      simp at h2
      have g1 := a1 y (by rw [h1, h2.1]; simp)
      have g2 := b2 x (by rw [h2.2]; simp)
      omega
def lf (o : Nat → Nat) : Nat → Nat
  | 0 => 0
  | j + 1 => lf o j ||| 2 ^ (o j)
def ol (o : Nat → Nat) : Nat → Nat → List Nat
  | _, 0 => []
  | j, n + 1 => o j :: ol o (j + 1) n
/-- the order that the class chooses -/
def OP (c : Nat) (b : Nat → Nat → Bool) (V : Nat → Nat) (o : Nat → Nat) (n : Nat) : Prop := ∀ j, j < n → o j < c ∧ (lf o j).testBit (o j) = false ∧ V (lf o j) = cost c b (o j) (lf o j) + V (lf o j ||| 2 ^ (o j)) ∧ ∀ m, m < o j → (lf o j).testBit m = false → V (lf o j) ≠ cost c b m (lf o j) + V (lf o j ||| 2 ^ m)
theorem lf_ok {c : Nat} {o : Nat → Nat} {n : Nat} (hc : c ≤ 6) (h : ∀ j, j < n → o j < c ∧ (lf o j).testBit (o j) = false) : ∀ j, j ≤ n → lf o j < 2 ^ c ∧ bc 13 (lf o j) = j := by
  intro j
  have p6 := p2_64 hc
  induction j with
  | zero => intro _; exact ⟨Nat.pow_pos (by omega), by rw [lf, bc_0]⟩
  | succ j ih =>
    intro hj
    obtain ⟨h1, h2⟩ := ih (by omega)
    obtain ⟨h3, h4⟩ := h j (by omega)
    exact ⟨or_in c (by omega) _ h1 _ h3, by rw [lf, bc_in _ (by omega) _ (by omega) h4, h2]⟩
theorem range_at {c m : Nat} (h : m < c) : ∃ rest, List.range c = List.range m ++ m :: rest := by
  refine ⟨(List.range (c - m - 1)).map (fun x => m + (x + 1)), ?_⟩
  rw [show c = m + ((c - m - 1) + 1) by omega, List.range_add, List.range_succ_eq_map]
  simp
theorem FM_ol {c : Nat} {b : Nat → Nat → Bool} {V o : Nat → Nat} (hc : c ≤ 6) (hV : VP c b V) (hO : OP c b V o c) : ∀ n j, j + n = c → FM (cst c b (lf o j)) (pms c n (lf o j)) (ol o j n) ∧ cst c b (lf o j) (ol o j n) = V (lf o j) := by
  have p6 := p2_64 hc
  have hl := lf_ok hc (fun j hj => ⟨(hO j hj).1, (hO j hj).2.1⟩)
  intro n
  induction n with
  | zero =>
    intro j hj
    obtain rfl : j = c := by omega
    obtain ⟨h1, h2⟩ := hl j (by omega)
    refine ⟨⟨[], [], rfl, fun y hy => absurd hy (by simp), fun y hy => absurd hy (by simp)⟩, ?_⟩
    rw [(bc_full j (by omega) _ h1).2 h2, hV.1]
    rfl
  | succ n ih =>
    intro j hj
    obtain ⟨h1, h2⟩ := hl j (by omega)
    obtain ⟨o1, o2, o3, o4⟩ := hO j (by omega)
    obtain ⟨⟨pre, post, e, f1, f2⟩, f3⟩ := ih (j + 1) (by omega)
    have hval : cst c b (lf o j) (ol o j (n + 1)) = V (lf o j) := by
      rw [ol, cst]
      rw [lf] at f3
      rw [f3, o3]
    refine ⟨?_, hval⟩
    obtain ⟨rest, hr⟩ := range_at o1
    have hall : ∀ y, y ∈ pms c (n + 1) (lf o j) → V (lf o j) ≤ cst c b (lf o j) y := V_le hc hV (n + 1) (lf o j) h1 (by omega)
    have e2 : pms c (n + 1) (lf o j) = ((List.range (o j)).flatMap (fun m => if (lf o j).testBit m = true then [] else (pms c n (lf o j ||| 2 ^ m)).map (fun l => m :: l)) ++ pre.map (fun l => o j :: l)) ++ (ol o j (n + 1)) :: (post.map (fun l => o j :: l) ++ rest.flatMap (fun m => if (lf o j).testBit m = true then [] else (pms c n (lf o j ||| 2 ^ m)).map (fun l => m :: l))) := by
      rw [pms, hr, List.flatMap_append, List.flatMap_cons, if_neg (by rw [o2]; simp)]
      rw [lf] at e
      rw [e, ol]
      simp
    refine ⟨_, _, e2, fun y hy => ?_, fun y hy => ?_⟩
    · rw [hval]
      rw [List.mem_append] at hy
      rcases hy with hy | hy
      · rw [List.mem_flatMap] at hy
        obtain ⟨m, hm, hy⟩ := hy
        rw [List.mem_range] at hm
        split at hy
        next => cases hy
        next q =>
          rw [List.mem_map] at hy
          obtain ⟨y2, g1, rfl⟩ := hy
          have q2 : (lf o j).testBit m = false := by simpa using q
          have g2 := (hV.2 (lf o j) (left_lt hc h1 (n := n) (by omega))).1 m (by omega) q2
          have g3 := o4 m hm q2
          have g4 := V_le hc hV n (lf o j ||| 2 ^ m) (or_in c (by omega) _ h1 m (by omega)) (by rw [bc_in _ (by omega) m (by omega) q2]; omega) y2 g1
          rw [cst]
          omega
      · rw [List.mem_map] at hy
        obtain ⟨y2, g1, rfl⟩ := hy
        have g2 := f1 y2 g1
        rw [f3, lf] at g2
        rw [cst, o3]
        omega
    · rw [hval]
      apply hall
      rw [e2]
      exact List.mem_append_right _ (List.mem_cons_of_mem _ hy)
/-- the next order -/
def f1 (p : Nat → Nat) : Nat → Nat
  | 0 => 0
  | n + 1 => if p n ≤ p (n + 1) then n + 1 else f1 p n
def f2 (p : Nat → Nat) (i : Nat) : Nat → Nat
  | 0 => 0
  | n + 1 => if p i ≤ p n then n else f2 p i n
def nxf (c : Nat) (p : Nat → Nat) (i j x : Nat) : Nat := if x < i then p x else if x = i then p j else if c + i - x = j then p i else p (c + i - x)
def gd (l : List Nat) (n : Nat) : Nat := l.getD n 0
def nxp (c : Nat) (l : List Nat) : Option (List Nat) := match f1 (gd l) (c - 1) with
  | 0 => none
  | i + 1 => some ((List.range c).map (nxf c (gd l) i (f2 (gd l) i c)))
def chn (c : Nat) : List (List Nat) → Bool
  | [] => true
  | a :: l => decide (nxp c a = l.head?) && (decide (a.length = c) && (decide (∀ x, x ∈ a → x < c) && chn c l))
set_option maxRecDepth 100000 in
theorem chn_ok : ∀ c, c < 7 → 0 < c → chn c (pms c c 0) = true ∧ (pms c c 0).length ≤ 720 ∧ (pms c c 0).head? = some (List.range c) := by decide +kernel
theorem chn_at {c : Nat} : ∀ L : List (List Nat), chn c L = true → ∀ k y, L[k]? = some y → nxp c y = L[k + 1]? ∧ y.length = c ∧ ∀ x, x ∈ y → x < c := by
  intro L
  induction L with
  | nil => intro _ k y h; simp at h
  | cons a l ih =>
    intro h k y hy
    rw [chn, Bool.and_eq_true, Bool.and_eq_true, Bool.and_eq_true, decide_eq_true_eq, decide_eq_true_eq, decide_eq_true_eq] at h
    cases k with
    | zero =>
      simp at hy
      subst hy
      refine ⟨?_, h.2.1, h.2.2.1⟩
      rw [h.1]
      simp [List.head?_eq_getElem?]
    | succ k =>
      simp at hy ⊢
      exact ih h.2.2.2 k y hy
