/-! the document's doings, over two ends X (the one spoken of) and Y: v the numbers (state, mark, number, tries, ticks, loops, byes), d the rows (wishes, least and most asked, least and most allowed, refused, asked, agreed), Q the packets that wait -/
def en (n : Int32) (F G x y : Nat) : Prop := (n = 0 ∧ F = x ∧ G = y) ∨ (n = 1 ∧ F = y ∧ G = x)
theorem en_flip {n : Int32} {F G x y : Nat} (h : en n F G x y) : en (1 - n) F G y x := by
  rcases h with ⟨rfl, rfl, rfl⟩ | ⟨rfl, rfl, rfl⟩
  · exact Or.inr ⟨by decide, rfl, rfl⟩
  · exact Or.inl ⟨by decide, rfl, rfl⟩
theorem en_0 {n : Int32} {F G x y : Nat} (h : en n F G x y) (h0 : n = 0) : F = x := by
  rcases h with ⟨-, h, -⟩ | ⟨h1, -, -⟩
  · exact h
  · rw [h0] at h1; exact absurd h1 (by decide)
theorem en_1 {n : Int32} {F G x y : Nat} (h : en n F G x y) (h0 : ¬ n = 0) : G = x := by
  rcases h with ⟨h1, -, -⟩ | ⟨-, -, h⟩
  · exact absurd h1 h0
  · exact h
abbrev nB : Nat → Int32 := fun _ => -1
def sq (lo : Int32) (p : Nat → Int32) (QX QY : Qt) : Qt × Qt := if lo = 0 then (QX, push p QY) else (push p QX, QY)
def rq (lo : Int32) (v f : Nat → Int32) (QX QY : Qt) (se : Int32) : (Nat → Int32) × (Qt × Qt) × Int32 :=
  if v 3 = 0 then (upd v 0 6, (QX, QY), se) else (upd (upd (upd v 3 (v 3 - 1)) 2 (v 2 + 1)) 4 3, sq lo (pk 0 (v 2 + 1) (v 1) f) QX QY, se + 1)
def byV (v : Nat → Int32) : Nat → Int32 := upd (upd v 6 (v 6 + 1)) 4 2
def hbV (v : Nat → Int32) : Nat → Int32 := if sUp (v 0) then upd v 0 0 else v
def hbbV (v : Nat → Int32) : Nat → Int32 := if v 0 = 5 then upd v 0 0 else v
def yeV (v : Nat → Int32) : Nat → Int32 := if v 0 = 1 then upd v 0 2 else if v 0 = 3 then upd (upd v 0 4) 3 10 else v
/-- an answer is heard -/
def ha (lo k : Int32) (w v : Nat → Int32) (d : Nat → Nat → Int32) (QX QY : Qt) (se : Int32) : (Nat → Int32) × (Nat → Nat → Int32) × (Qt × Qt) × Int32 :=
  if k = 1 then (yeV v, d, (QX, QY), se)
  else if v 0 = 1 ∨ v 0 = 3 then
    if k = 2 then ((rq lo v (ctr (d 1) (d 2) w (d 6)) QX QY se).1, va_up d 6 (ctr (d 1) (d 2) w (d 6)), (rq lo v (ctr (d 1) (d 2) w (d 6)) QX QY se).2)
    else ((rq lo v (rfl4 w (d 6)) QX QY se).1, va_up d 6 (rfl4 w (d 6)), (rq lo v (rfl4 w (d 6)) QX QY se).2)
  else (v, d, (QX, QY), se)
/-- a request is answered: whether it is good, the rows, the queues -/
abbrev jK (w : Nat → Int32) (d : Nat → Nat → Int32) : Int32 := jKd w (d 5) (d 3) (d 4)
abbrev jA (w : Nat → Int32) (d : Nat → Nat → Int32) : Nat → Int32 := jAn w (d 5) (d 3) (d 4)
def arD (w : Nat → Int32) (d : Nat → Nat → Int32) : Nat → Nat → Int32 := if jK w d = 1 then va_up d 7 (jA w d) else d
abbrev arQ (lo nb : Int32) (w : Nat → Int32) (d : Nat → Nat → Int32) (QX QY : Qt) : Qt × Qt := sq lo (pk (jK w d) nb 0 (jA w d)) QX QY
/-- a request is heard, its mark another one: first an opened end asks again -/
def hr1 (lo : Int32) (v : Nat → Int32) (d : Nat → Nat → Int32) (QX QY : Qt) (se : Int32) : (Nat → Int32) × (Qt × Qt) × Int32 :=
  if v 0 = 4 then rq lo (upd (upd (upd v 5 0) 0 1) 3 10) (d 6) QX QY se else (upd v 5 0, (QX, QY), se)
def hr2 (w v : Nat → Int32) (d : Nat → Nat → Int32) : Nat → Int32 := if jK w d = 1 then mvY v else if v 0 = 3 then upd v 0 1 else v
def hrq (lo nb mk : Int32) (w v : Nat → Int32) (d : Nat → Nat → Int32) (QX QY : Qt) (se : Int32) : (Nat → Int32) × (Nat → Nat → Int32) × (Qt × Qt) × Int32 :=
  if mk = v 1 then (cnL v, d, (QX, QY), se)
  else (hr2 w (hr1 lo v d QX QY se).1 d, arD w d, arQ lo nb w d (hr1 lo v d QX QY se).2.1.1 (hr1 lo v d QX QY se).2.1.2, (hr1 lo v d QX QY se).2.2 + 1)
/-- a packet is heard -/
def hea (lo k nb mk : Int32) (w v : Nat → Int32) (d : Nat → Nat → Int32) (QX QY : Qt) (se : Int32) : (Nat → Int32) × (Nat → Nat → Int32) × (Qt × Qt) × Int32 :=
  if k = 4 then (hbV v, d, sq lo (pk 5 0 0 nB) QX QY, se + 1)
  else if k = 5 then (hbbV v, d, (QX, QY), se)
  else if sUp (v 0) then
    if k = 0 then hrq lo nb mk w v d QX QY se
    else if nb = v 2 then ha lo k w v d QX QY se
    else (v, d, (QX, QY), se)
  else (v, d, (QX, QY), se)
/-- waiting is over -/
def stw (lo : Int32) (v f : Nat → Int32) (QX QY : Qt) (se : Int32) : (Nat → Int32) × (Qt × Qt) × Int32 :=
  if v 0 = 5 then
    if 3 ≤ v 6 then (upd v 0 0, (QX, QY), se) else (byV v, sq lo (pk 4 0 0 nB) QX QY, se + 1)
  else if v 0 = 2 then rq lo (upd v 0 1) f QX QY se else rq lo v f QX QY se
/-- one tick less -/
def wt (lo : Int32) (v f : Nat → Int32) (QX QY : Qt) (se : Int32) : (Nat → Int32) × (Qt × Qt) × Int32 :=
  if sWt (v 0) then
    if v 4 - 1 = 0 then stw lo (upd v 4 (v 4 - 1)) f QX QY se else (upd v 4 (v 4 - 1), (QX, QY), se)
  else (v, (QX, QY), se)
