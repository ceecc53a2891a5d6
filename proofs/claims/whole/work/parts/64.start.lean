/-! PRINTED (gen_start.py): what is given at the law's entry -/
abbrev st_fl : List Cond := flatC (Jvm.Cond.and given_1 narrow_1)
/-- the text constants: where they are named, their bytes -/
def st_tb : List (String × Nat × List Nat) := [("RoomNumbers$Teller", 67, [101, 118, 101, 110, 105, 110, 103]), ("RoomNumbers$Teller", 77, [110, 111, 116, 101]), ("RoomNumbers$Teller", 79, [115, 116, 114, 111, 107, 101, 115]), ("RoomNumbers$Teller", 81, [98, 114, 111, 107, 101, 110]), ("RoomNumbers$Teller", 83, [108, 101, 102, 116]), ("RoomNumbers$Teller", 85, [116, 117, 114, 110, 101, 100]), ("RoomNumbers$Teller", 87, [100, 101, 98, 116]), ("RoomNumbers$Teller", 89, [115, 97, 109, 101]), ("RoomNumbers$Teller", 91, [109, 111, 114, 101]), ("RoomNumbers$Teller", 93, [115, 117, 109]), ("RoomNumbers$Teller", 95, [119, 104, 111, 108, 101]), ("RoomNumbers$Teller", 103, [97, 116]), ("RoomNumbersModel", 98, [110, 111, 116, 101]), ("RoomNumbersModel", 104, [115, 116, 114, 111, 107, 101, 115]), ("RoomNumbersModel", 106, [98, 114, 111, 107, 101, 110]), ("RoomNumbersModel", 108, [108, 101, 102, 116]), ("RoomNumbersModel", 110, [116, 117, 114, 110, 101, 100]), ("RoomNumbersModel", 112, [100, 101, 98, 116]), ("RoomNumbersModel", 118, [97, 116]), ("RoomNumbersModel", 126, [115, 97, 109, 101]), ("RoomNumbersModel", 128, [109, 111, 114, 101]), ("RoomNumbersModel", 130, [115, 117, 109]), ("RoomNumbersModel", 132, [119, 104, 111, 108, 101]), ("RoomNumbersModel", 140, [101, 118, 101, 110, 105, 110, 103])]
def st_en (k : Nat) : String × Nat × List Nat := st_tb.getD k ("", 0, [])
def st_gS (L : Nat) : mx_H := fun a j =>
  if a = -2 then (if j = -2 then 24 else if j = -1 then (L : Int) else -1)
  else if a = -3 ∨ a = -4 then (if j = -2 then 24 else if j = -1 then 8 else -1)
  else if -33 ≤ a ∧ a ≤ -10 then (if j = -2 then 30 else if j = -1 then 0 else if j = 0 then a - 30 else -1)
  else if -63 ≤ a ∧ a ≤ -40 then (if j = -2 then 25 else if j = -1 then ((st_en (-40 - a).toNat).2.2.length : Int) else -1)
  else if j = -2 then 0 else -1
def st_1 : List Int := [-1, 0, 1, 0, 2, 0, 1, -1]
def st_2 : List Int := [-1, -1, -1, 1, -1, 2, 2, -1]
def st_gh (xs : Nat → Int32) : mx_H := fun a j =>
  if a = -2 then (xs j.toNat).toInt
  else if a = -3 then st_1.getD j.toNat 0
  else if a = -4 then st_2.getD j.toNat 0
  else if -63 ≤ a ∧ a ≤ -40 then (((st_en (-40 - a).toNat).2.2.getD j.toNat 0 : Nat) : Int)
  else 0
theorem st_str {args : Array Value} {s : State} {own : String} {k : Nat} {bs : List Nat} {A : Nat → Prop} (hb : bs.length < 2 ^ 31) (hA : ∀ a : Nat, a < s.heap.size → ¬ A a) (h1 : (Cond.exactly (.string own k) "java/lang/String").before args s = true) (h2 : (Cond.eq (.field (.string own k) "java/lang/String" "coder" "B") (.int 0)).before args s = true)
    (h3 : (Cond.arrayOf (.field (.string own k) "java/lang/String" "value" "[B") .byte).before args s = true) (h4 : (Cond.eq (.length (.field (.string own k) "java/lang/String" "value" "[B")) (.int (Int32.ofNat bs.length))).before args s = true) (h5 : ∀ j : Nat, j < bs.length → (Cond.eq (.elem (.field (.string own k) "java/lang/String" "value" "[B") (.int (Int32.ofNat j))) (.int (Int32.ofInt (bs.getD j 0 : Nat)))).before args s = true) :
    ∃ q : Nat × Nat, (Term.string own k).eval args s none [] s = some (.ref q.1) ∧ va_O "java/lang/String" q.1 A s s.heap ∧ va_OF "java/lang/String" "coder" "B" (.int 0) q.1 A s s.heap ∧ va_OF "java/lang/String" "value" "[B" (.ref q.2) q.1 A s s.heap ∧ va_T .byte q.2 bs.length (fun j => .int (Int32.ofInt (bs.getD j 0 : Nat))) A s s.heap := by
  obtain ⟨a, c, cell, kA, q1, q2, q3, q4, q5, q6, -⟩ := Cond.exactly_spec (args := args) (first := s) (o := none) (s := s) (idx := []) h1
  obtain ⟨t, ht, hT⟩ := va_Tof (f := fun j => .int (Int32.ofInt (bs.getD j 0 : Nat))) (A := A) hb h3 (va_eqt h4) (fun j hj => va_eqt (h5 j hj)) hA
  exact ⟨(a, t), q1, ⟨cell, q3, q5, by rw [q6]; exact q2, hA a (Array.getElem?_eq_some_iff.mp q3).1⟩, vk_OFof q1 (va_eqt h2) hA, vk_OFof q1 ht hA, hT⟩
/-- of one text constant -/
def st_P (args : Array Value) (s : State) (A : Nat → Prop) (x : String × Nat × List Nat) (q : Nat × Nat) : Prop := (Term.string x.1 x.2.1).eval args s none [] s = some (.ref q.1) ∧ va_O "java/lang/String" q.1 A s s.heap ∧ va_OF "java/lang/String" "coder" "B" (.int 0) q.1 A s s.heap ∧ va_OF "java/lang/String" "value" "[B" (.ref q.2) q.1 A s s.heap ∧ va_T .byte q.2 x.2.2.length (fun j => .int (Int32.ofInt (x.2.2.getD j 0 : Nat))) A s s.heap
theorem st_s0 {args : Array Value} {s : State} {A : Nat → Prop} (hA : ∀ a : Nat, a < s.heap.size → ¬ A a) (hs : ∀ c ∈ st_fl, c.before args s = true) : ∃ q, st_P args s A ("RoomNumbers$Teller", 67, [101, 118, 101, 110, 105, 110, 103]) q := by
  refine st_str (bs := [101, 118, 101, 110, 105, 110, 103]) (by decide) hA (hs _ (List.mem_of_getElem? (i := 288) (by decide +kernel))) (hs _ (List.mem_of_getElem? (i := 289) (by decide +kernel))) (hs _ (List.mem_of_getElem? (i := 290) (by decide +kernel))) (hs _ (List.mem_of_getElem? (i := 291) (by decide +kernel))) (fun j hj => ?_)
  match j, hj with
  | 0, _ => exact hs _ (List.mem_of_getElem? (i := 292) (by decide +kernel))
  | 1, _ => exact hs _ (List.mem_of_getElem? (i := 293) (by decide +kernel))
  | 2, _ => exact hs _ (List.mem_of_getElem? (i := 294) (by decide +kernel))
  | 3, _ => exact hs _ (List.mem_of_getElem? (i := 295) (by decide +kernel))
  | 4, _ => exact hs _ (List.mem_of_getElem? (i := 296) (by decide +kernel))
  | 5, _ => exact hs _ (List.mem_of_getElem? (i := 297) (by decide +kernel))
  | 6, _ => exact hs _ (List.mem_of_getElem? (i := 298) (by decide +kernel))
  | j + 7, hj => exact absurd hj (by simp)
theorem st_s1 {args : Array Value} {s : State} {A : Nat → Prop} (hA : ∀ a : Nat, a < s.heap.size → ¬ A a) (hs : ∀ c ∈ st_fl, c.before args s = true) : ∃ q, st_P args s A ("RoomNumbers$Teller", 77, [110, 111, 116, 101]) q := by
  refine st_str (bs := [110, 111, 116, 101]) (by decide) hA (hs _ (List.mem_of_getElem? (i := 140) (by decide +kernel))) (hs _ (List.mem_of_getElem? (i := 141) (by decide +kernel))) (hs _ (List.mem_of_getElem? (i := 142) (by decide +kernel))) (hs _ (List.mem_of_getElem? (i := 143) (by decide +kernel))) (fun j hj => ?_)
  match j, hj with
  | 0, _ => exact hs _ (List.mem_of_getElem? (i := 144) (by decide +kernel))
  | 1, _ => exact hs _ (List.mem_of_getElem? (i := 145) (by decide +kernel))
  | 2, _ => exact hs _ (List.mem_of_getElem? (i := 146) (by decide +kernel))
  | 3, _ => exact hs _ (List.mem_of_getElem? (i := 147) (by decide +kernel))
  | j + 4, hj => exact absurd hj (by simp)
theorem st_s2 {args : Array Value} {s : State} {A : Nat → Prop} (hA : ∀ a : Nat, a < s.heap.size → ¬ A a) (hs : ∀ c ∈ st_fl, c.before args s = true) : ∃ q, st_P args s A ("RoomNumbers$Teller", 79, [115, 116, 114, 111, 107, 101, 115]) q := by
  refine st_str (bs := [115, 116, 114, 111, 107, 101, 115]) (by decide) hA (hs _ (List.mem_of_getElem? (i := 148) (by decide +kernel))) (hs _ (List.mem_of_getElem? (i := 149) (by decide +kernel))) (hs _ (List.mem_of_getElem? (i := 150) (by decide +kernel))) (hs _ (List.mem_of_getElem? (i := 151) (by decide +kernel))) (fun j hj => ?_)
  match j, hj with
  | 0, _ => exact hs _ (List.mem_of_getElem? (i := 152) (by decide +kernel))
  | 1, _ => exact hs _ (List.mem_of_getElem? (i := 153) (by decide +kernel))
  | 2, _ => exact hs _ (List.mem_of_getElem? (i := 154) (by decide +kernel))
  | 3, _ => exact hs _ (List.mem_of_getElem? (i := 155) (by decide +kernel))
  | 4, _ => exact hs _ (List.mem_of_getElem? (i := 156) (by decide +kernel))
  | 5, _ => exact hs _ (List.mem_of_getElem? (i := 157) (by decide +kernel))
  | 6, _ => exact hs _ (List.mem_of_getElem? (i := 158) (by decide +kernel))
  | j + 7, hj => exact absurd hj (by simp)
theorem st_s3 {args : Array Value} {s : State} {A : Nat → Prop} (hA : ∀ a : Nat, a < s.heap.size → ¬ A a) (hs : ∀ c ∈ st_fl, c.before args s = true) : ∃ q, st_P args s A ("RoomNumbers$Teller", 81, [98, 114, 111, 107, 101, 110]) q := by
  refine st_str (bs := [98, 114, 111, 107, 101, 110]) (by decide) hA (hs _ (List.mem_of_getElem? (i := 160) (by decide +kernel))) (hs _ (List.mem_of_getElem? (i := 161) (by decide +kernel))) (hs _ (List.mem_of_getElem? (i := 162) (by decide +kernel))) (hs _ (List.mem_of_getElem? (i := 163) (by decide +kernel))) (fun j hj => ?_)
  match j, hj with
  | 0, _ => exact hs _ (List.mem_of_getElem? (i := 164) (by decide +kernel))
  | 1, _ => exact hs _ (List.mem_of_getElem? (i := 165) (by decide +kernel))
  | 2, _ => exact hs _ (List.mem_of_getElem? (i := 166) (by decide +kernel))
  | 3, _ => exact hs _ (List.mem_of_getElem? (i := 167) (by decide +kernel))
  | 4, _ => exact hs _ (List.mem_of_getElem? (i := 168) (by decide +kernel))
  | 5, _ => exact hs _ (List.mem_of_getElem? (i := 169) (by decide +kernel))
  | j + 6, hj => exact absurd hj (by simp)
theorem st_s4 {args : Array Value} {s : State} {A : Nat → Prop} (hA : ∀ a : Nat, a < s.heap.size → ¬ A a) (hs : ∀ c ∈ st_fl, c.before args s = true) : ∃ q, st_P args s A ("RoomNumbers$Teller", 83, [108, 101, 102, 116]) q := by
  refine st_str (bs := [108, 101, 102, 116]) (by decide) hA (hs _ (List.mem_of_getElem? (i := 172) (by decide +kernel))) (hs _ (List.mem_of_getElem? (i := 173) (by decide +kernel))) (hs _ (List.mem_of_getElem? (i := 174) (by decide +kernel))) (hs _ (List.mem_of_getElem? (i := 175) (by decide +kernel))) (fun j hj => ?_)
  match j, hj with
  | 0, _ => exact hs _ (List.mem_of_getElem? (i := 176) (by decide +kernel))
  | 1, _ => exact hs _ (List.mem_of_getElem? (i := 177) (by decide +kernel))
  | 2, _ => exact hs _ (List.mem_of_getElem? (i := 178) (by decide +kernel))
  | 3, _ => exact hs _ (List.mem_of_getElem? (i := 179) (by decide +kernel))
  | j + 4, hj => exact absurd hj (by simp)
theorem st_s5 {args : Array Value} {s : State} {A : Nat → Prop} (hA : ∀ a : Nat, a < s.heap.size → ¬ A a) (hs : ∀ c ∈ st_fl, c.before args s = true) : ∃ q, st_P args s A ("RoomNumbers$Teller", 85, [116, 117, 114, 110, 101, 100]) q := by
  refine st_str (bs := [116, 117, 114, 110, 101, 100]) (by decide) hA (hs _ (List.mem_of_getElem? (i := 183) (by decide +kernel))) (hs _ (List.mem_of_getElem? (i := 184) (by decide +kernel))) (hs _ (List.mem_of_getElem? (i := 185) (by decide +kernel))) (hs _ (List.mem_of_getElem? (i := 186) (by decide +kernel))) (fun j hj => ?_)
  match j, hj with
  | 0, _ => exact hs _ (List.mem_of_getElem? (i := 187) (by decide +kernel))
  | 1, _ => exact hs _ (List.mem_of_getElem? (i := 188) (by decide +kernel))
  | 2, _ => exact hs _ (List.mem_of_getElem? (i := 189) (by decide +kernel))
  | 3, _ => exact hs _ (List.mem_of_getElem? (i := 190) (by decide +kernel))
  | 4, _ => exact hs _ (List.mem_of_getElem? (i := 191) (by decide +kernel))
  | 5, _ => exact hs _ (List.mem_of_getElem? (i := 192) (by decide +kernel))
  | j + 6, hj => exact absurd hj (by simp)
theorem st_s6 {args : Array Value} {s : State} {A : Nat → Prop} (hA : ∀ a : Nat, a < s.heap.size → ¬ A a) (hs : ∀ c ∈ st_fl, c.before args s = true) : ∃ q, st_P args s A ("RoomNumbers$Teller", 87, [100, 101, 98, 116]) q := by
  refine st_str (bs := [100, 101, 98, 116]) (by decide) hA (hs _ (List.mem_of_getElem? (i := 197) (by decide +kernel))) (hs _ (List.mem_of_getElem? (i := 198) (by decide +kernel))) (hs _ (List.mem_of_getElem? (i := 199) (by decide +kernel))) (hs _ (List.mem_of_getElem? (i := 200) (by decide +kernel))) (fun j hj => ?_)
  match j, hj with
  | 0, _ => exact hs _ (List.mem_of_getElem? (i := 201) (by decide +kernel))
  | 1, _ => exact hs _ (List.mem_of_getElem? (i := 202) (by decide +kernel))
  | 2, _ => exact hs _ (List.mem_of_getElem? (i := 203) (by decide +kernel))
  | 3, _ => exact hs _ (List.mem_of_getElem? (i := 204) (by decide +kernel))
  | j + 4, hj => exact absurd hj (by simp)
theorem st_s7 {args : Array Value} {s : State} {A : Nat → Prop} (hA : ∀ a : Nat, a < s.heap.size → ¬ A a) (hs : ∀ c ∈ st_fl, c.before args s = true) : ∃ q, st_P args s A ("RoomNumbers$Teller", 89, [115, 97, 109, 101]) q := by
  refine st_str (bs := [115, 97, 109, 101]) (by decide) hA (hs _ (List.mem_of_getElem? (i := 210) (by decide +kernel))) (hs _ (List.mem_of_getElem? (i := 211) (by decide +kernel))) (hs _ (List.mem_of_getElem? (i := 212) (by decide +kernel))) (hs _ (List.mem_of_getElem? (i := 213) (by decide +kernel))) (fun j hj => ?_)
  match j, hj with
  | 0, _ => exact hs _ (List.mem_of_getElem? (i := 214) (by decide +kernel))
  | 1, _ => exact hs _ (List.mem_of_getElem? (i := 215) (by decide +kernel))
  | 2, _ => exact hs _ (List.mem_of_getElem? (i := 216) (by decide +kernel))
  | 3, _ => exact hs _ (List.mem_of_getElem? (i := 217) (by decide +kernel))
  | j + 4, hj => exact absurd hj (by simp)
theorem st_s8 {args : Array Value} {s : State} {A : Nat → Prop} (hA : ∀ a : Nat, a < s.heap.size → ¬ A a) (hs : ∀ c ∈ st_fl, c.before args s = true) : ∃ q, st_P args s A ("RoomNumbers$Teller", 91, [109, 111, 114, 101]) q := by
  refine st_str (bs := [109, 111, 114, 101]) (by decide) hA (hs _ (List.mem_of_getElem? (i := 224) (by decide +kernel))) (hs _ (List.mem_of_getElem? (i := 225) (by decide +kernel))) (hs _ (List.mem_of_getElem? (i := 226) (by decide +kernel))) (hs _ (List.mem_of_getElem? (i := 227) (by decide +kernel))) (fun j hj => ?_)
  match j, hj with
  | 0, _ => exact hs _ (List.mem_of_getElem? (i := 228) (by decide +kernel))
  | 1, _ => exact hs _ (List.mem_of_getElem? (i := 229) (by decide +kernel))
  | 2, _ => exact hs _ (List.mem_of_getElem? (i := 230) (by decide +kernel))
  | 3, _ => exact hs _ (List.mem_of_getElem? (i := 231) (by decide +kernel))
  | j + 4, hj => exact absurd hj (by simp)
theorem st_s9 {args : Array Value} {s : State} {A : Nat → Prop} (hA : ∀ a : Nat, a < s.heap.size → ¬ A a) (hs : ∀ c ∈ st_fl, c.before args s = true) : ∃ q, st_P args s A ("RoomNumbers$Teller", 93, [115, 117, 109]) q := by
  refine st_str (bs := [115, 117, 109]) (by decide) hA (hs _ (List.mem_of_getElem? (i := 239) (by decide +kernel))) (hs _ (List.mem_of_getElem? (i := 240) (by decide +kernel))) (hs _ (List.mem_of_getElem? (i := 241) (by decide +kernel))) (hs _ (List.mem_of_getElem? (i := 242) (by decide +kernel))) (fun j hj => ?_)
  match j, hj with
  | 0, _ => exact hs _ (List.mem_of_getElem? (i := 243) (by decide +kernel))
  | 1, _ => exact hs _ (List.mem_of_getElem? (i := 244) (by decide +kernel))
  | 2, _ => exact hs _ (List.mem_of_getElem? (i := 245) (by decide +kernel))
  | j + 3, hj => exact absurd hj (by simp)
theorem st_s10 {args : Array Value} {s : State} {A : Nat → Prop} (hA : ∀ a : Nat, a < s.heap.size → ¬ A a) (hs : ∀ c ∈ st_fl, c.before args s = true) : ∃ q, st_P args s A ("RoomNumbers$Teller", 95, [119, 104, 111, 108, 101]) q := by
  refine st_str (bs := [119, 104, 111, 108, 101]) (by decide) hA (hs _ (List.mem_of_getElem? (i := 254) (by decide +kernel))) (hs _ (List.mem_of_getElem? (i := 255) (by decide +kernel))) (hs _ (List.mem_of_getElem? (i := 256) (by decide +kernel))) (hs _ (List.mem_of_getElem? (i := 257) (by decide +kernel))) (fun j hj => ?_)
  match j, hj with
  | 0, _ => exact hs _ (List.mem_of_getElem? (i := 258) (by decide +kernel))
  | 1, _ => exact hs _ (List.mem_of_getElem? (i := 259) (by decide +kernel))
  | 2, _ => exact hs _ (List.mem_of_getElem? (i := 260) (by decide +kernel))
  | 3, _ => exact hs _ (List.mem_of_getElem? (i := 261) (by decide +kernel))
  | 4, _ => exact hs _ (List.mem_of_getElem? (i := 262) (by decide +kernel))
  | j + 5, hj => exact absurd hj (by simp)
theorem st_s11 {args : Array Value} {s : State} {A : Nat → Prop} (hA : ∀ a : Nat, a < s.heap.size → ¬ A a) (hs : ∀ c ∈ st_fl, c.before args s = true) : ∃ q, st_P args s A ("RoomNumbers$Teller", 103, [97, 116]) q := by
  refine st_str (bs := [97, 116]) (by decide) hA (hs _ (List.mem_of_getElem? (i := 272) (by decide +kernel))) (hs _ (List.mem_of_getElem? (i := 273) (by decide +kernel))) (hs _ (List.mem_of_getElem? (i := 274) (by decide +kernel))) (hs _ (List.mem_of_getElem? (i := 275) (by decide +kernel))) (fun j hj => ?_)
  match j, hj with
  | 0, _ => exact hs _ (List.mem_of_getElem? (i := 276) (by decide +kernel))
  | 1, _ => exact hs _ (List.mem_of_getElem? (i := 277) (by decide +kernel))
  | j + 2, hj => exact absurd hj (by simp)
theorem st_s12 {args : Array Value} {s : State} {A : Nat → Prop} (hA : ∀ a : Nat, a < s.heap.size → ¬ A a) (hs : ∀ c ∈ st_fl, c.before args s = true) : ∃ q, st_P args s A ("RoomNumbersModel", 98, [110, 111, 116, 101]) q := by
  refine st_str (bs := [110, 111, 116, 101]) (by decide) hA (hs _ (List.mem_of_getElem? (i := 310) (by decide +kernel))) (hs _ (List.mem_of_getElem? (i := 311) (by decide +kernel))) (hs _ (List.mem_of_getElem? (i := 312) (by decide +kernel))) (hs _ (List.mem_of_getElem? (i := 313) (by decide +kernel))) (fun j hj => ?_)
  match j, hj with
  | 0, _ => exact hs _ (List.mem_of_getElem? (i := 314) (by decide +kernel))
  | 1, _ => exact hs _ (List.mem_of_getElem? (i := 315) (by decide +kernel))
  | 2, _ => exact hs _ (List.mem_of_getElem? (i := 316) (by decide +kernel))
  | 3, _ => exact hs _ (List.mem_of_getElem? (i := 317) (by decide +kernel))
  | j + 4, hj => exact absurd hj (by simp)
theorem st_s13 {args : Array Value} {s : State} {A : Nat → Prop} (hA : ∀ a : Nat, a < s.heap.size → ¬ A a) (hs : ∀ c ∈ st_fl, c.before args s = true) : ∃ q, st_P args s A ("RoomNumbersModel", 104, [115, 116, 114, 111, 107, 101, 115]) q := by
  refine st_str (bs := [115, 116, 114, 111, 107, 101, 115]) (by decide) hA (hs _ (List.mem_of_getElem? (i := 330) (by decide +kernel))) (hs _ (List.mem_of_getElem? (i := 331) (by decide +kernel))) (hs _ (List.mem_of_getElem? (i := 332) (by decide +kernel))) (hs _ (List.mem_of_getElem? (i := 333) (by decide +kernel))) (fun j hj => ?_)
  match j, hj with
  | 0, _ => exact hs _ (List.mem_of_getElem? (i := 334) (by decide +kernel))
  | 1, _ => exact hs _ (List.mem_of_getElem? (i := 335) (by decide +kernel))
  | 2, _ => exact hs _ (List.mem_of_getElem? (i := 336) (by decide +kernel))
  | 3, _ => exact hs _ (List.mem_of_getElem? (i := 337) (by decide +kernel))
  | 4, _ => exact hs _ (List.mem_of_getElem? (i := 338) (by decide +kernel))
  | 5, _ => exact hs _ (List.mem_of_getElem? (i := 339) (by decide +kernel))
  | 6, _ => exact hs _ (List.mem_of_getElem? (i := 340) (by decide +kernel))
  | j + 7, hj => exact absurd hj (by simp)
theorem st_s14 {args : Array Value} {s : State} {A : Nat → Prop} (hA : ∀ a : Nat, a < s.heap.size → ¬ A a) (hs : ∀ c ∈ st_fl, c.before args s = true) : ∃ q, st_P args s A ("RoomNumbersModel", 106, [98, 114, 111, 107, 101, 110]) q := by
  refine st_str (bs := [98, 114, 111, 107, 101, 110]) (by decide) hA (hs _ (List.mem_of_getElem? (i := 354) (by decide +kernel))) (hs _ (List.mem_of_getElem? (i := 355) (by decide +kernel))) (hs _ (List.mem_of_getElem? (i := 356) (by decide +kernel))) (hs _ (List.mem_of_getElem? (i := 357) (by decide +kernel))) (fun j hj => ?_)
  match j, hj with
  | 0, _ => exact hs _ (List.mem_of_getElem? (i := 358) (by decide +kernel))
  | 1, _ => exact hs _ (List.mem_of_getElem? (i := 359) (by decide +kernel))
  | 2, _ => exact hs _ (List.mem_of_getElem? (i := 360) (by decide +kernel))
  | 3, _ => exact hs _ (List.mem_of_getElem? (i := 361) (by decide +kernel))
  | 4, _ => exact hs _ (List.mem_of_getElem? (i := 362) (by decide +kernel))
  | 5, _ => exact hs _ (List.mem_of_getElem? (i := 363) (by decide +kernel))
  | j + 6, hj => exact absurd hj (by simp)
theorem st_s15 {args : Array Value} {s : State} {A : Nat → Prop} (hA : ∀ a : Nat, a < s.heap.size → ¬ A a) (hs : ∀ c ∈ st_fl, c.before args s = true) : ∃ q, st_P args s A ("RoomNumbersModel", 108, [108, 101, 102, 116]) q := by
  refine st_str (bs := [108, 101, 102, 116]) (by decide) hA (hs _ (List.mem_of_getElem? (i := 378) (by decide +kernel))) (hs _ (List.mem_of_getElem? (i := 379) (by decide +kernel))) (hs _ (List.mem_of_getElem? (i := 380) (by decide +kernel))) (hs _ (List.mem_of_getElem? (i := 381) (by decide +kernel))) (fun j hj => ?_)
  match j, hj with
  | 0, _ => exact hs _ (List.mem_of_getElem? (i := 382) (by decide +kernel))
  | 1, _ => exact hs _ (List.mem_of_getElem? (i := 383) (by decide +kernel))
  | 2, _ => exact hs _ (List.mem_of_getElem? (i := 384) (by decide +kernel))
  | 3, _ => exact hs _ (List.mem_of_getElem? (i := 385) (by decide +kernel))
  | j + 4, hj => exact absurd hj (by simp)
theorem st_s16 {args : Array Value} {s : State} {A : Nat → Prop} (hA : ∀ a : Nat, a < s.heap.size → ¬ A a) (hs : ∀ c ∈ st_fl, c.before args s = true) : ∃ q, st_P args s A ("RoomNumbersModel", 110, [116, 117, 114, 110, 101, 100]) q := by
  refine st_str (bs := [116, 117, 114, 110, 101, 100]) (by decide) hA (hs _ (List.mem_of_getElem? (i := 401) (by decide +kernel))) (hs _ (List.mem_of_getElem? (i := 402) (by decide +kernel))) (hs _ (List.mem_of_getElem? (i := 403) (by decide +kernel))) (hs _ (List.mem_of_getElem? (i := 404) (by decide +kernel))) (fun j hj => ?_)
  match j, hj with
  | 0, _ => exact hs _ (List.mem_of_getElem? (i := 405) (by decide +kernel))
  | 1, _ => exact hs _ (List.mem_of_getElem? (i := 406) (by decide +kernel))
  | 2, _ => exact hs _ (List.mem_of_getElem? (i := 407) (by decide +kernel))
  | 3, _ => exact hs _ (List.mem_of_getElem? (i := 408) (by decide +kernel))
  | 4, _ => exact hs _ (List.mem_of_getElem? (i := 409) (by decide +kernel))
  | 5, _ => exact hs _ (List.mem_of_getElem? (i := 410) (by decide +kernel))
  | j + 6, hj => exact absurd hj (by simp)
theorem st_s17 {args : Array Value} {s : State} {A : Nat → Prop} (hA : ∀ a : Nat, a < s.heap.size → ¬ A a) (hs : ∀ c ∈ st_fl, c.before args s = true) : ∃ q, st_P args s A ("RoomNumbersModel", 112, [100, 101, 98, 116]) q := by
  refine st_str (bs := [100, 101, 98, 116]) (by decide) hA (hs _ (List.mem_of_getElem? (i := 427) (by decide +kernel))) (hs _ (List.mem_of_getElem? (i := 428) (by decide +kernel))) (hs _ (List.mem_of_getElem? (i := 429) (by decide +kernel))) (hs _ (List.mem_of_getElem? (i := 430) (by decide +kernel))) (fun j hj => ?_)
  match j, hj with
  | 0, _ => exact hs _ (List.mem_of_getElem? (i := 431) (by decide +kernel))
  | 1, _ => exact hs _ (List.mem_of_getElem? (i := 432) (by decide +kernel))
  | 2, _ => exact hs _ (List.mem_of_getElem? (i := 433) (by decide +kernel))
  | 3, _ => exact hs _ (List.mem_of_getElem? (i := 434) (by decide +kernel))
  | j + 4, hj => exact absurd hj (by simp)
theorem st_s18 {args : Array Value} {s : State} {A : Nat → Prop} (hA : ∀ a : Nat, a < s.heap.size → ¬ A a) (hs : ∀ c ∈ st_fl, c.before args s = true) : ∃ q, st_P args s A ("RoomNumbersModel", 118, [97, 116]) q := by
  refine st_str (bs := [97, 116]) (by decide) hA (hs _ (List.mem_of_getElem? (i := 562) (by decide +kernel))) (hs _ (List.mem_of_getElem? (i := 563) (by decide +kernel))) (hs _ (List.mem_of_getElem? (i := 564) (by decide +kernel))) (hs _ (List.mem_of_getElem? (i := 565) (by decide +kernel))) (fun j hj => ?_)
  match j, hj with
  | 0, _ => exact hs _ (List.mem_of_getElem? (i := 566) (by decide +kernel))
  | 1, _ => exact hs _ (List.mem_of_getElem? (i := 567) (by decide +kernel))
  | j + 2, hj => exact absurd hj (by simp)
theorem st_s19 {args : Array Value} {s : State} {A : Nat → Prop} (hA : ∀ a : Nat, a < s.heap.size → ¬ A a) (hs : ∀ c ∈ st_fl, c.before args s = true) : ∃ q, st_P args s A ("RoomNumbersModel", 126, [115, 97, 109, 101]) q := by
  refine st_str (bs := [115, 97, 109, 101]) (by decide) hA (hs _ (List.mem_of_getElem? (i := 452) (by decide +kernel))) (hs _ (List.mem_of_getElem? (i := 453) (by decide +kernel))) (hs _ (List.mem_of_getElem? (i := 454) (by decide +kernel))) (hs _ (List.mem_of_getElem? (i := 455) (by decide +kernel))) (fun j hj => ?_)
  match j, hj with
  | 0, _ => exact hs _ (List.mem_of_getElem? (i := 456) (by decide +kernel))
  | 1, _ => exact hs _ (List.mem_of_getElem? (i := 457) (by decide +kernel))
  | 2, _ => exact hs _ (List.mem_of_getElem? (i := 458) (by decide +kernel))
  | 3, _ => exact hs _ (List.mem_of_getElem? (i := 459) (by decide +kernel))
  | j + 4, hj => exact absurd hj (by simp)
theorem st_s20 {args : Array Value} {s : State} {A : Nat → Prop} (hA : ∀ a : Nat, a < s.heap.size → ¬ A a) (hs : ∀ c ∈ st_fl, c.before args s = true) : ∃ q, st_P args s A ("RoomNumbersModel", 128, [109, 111, 114, 101]) q := by
  refine st_str (bs := [109, 111, 114, 101]) (by decide) hA (hs _ (List.mem_of_getElem? (i := 478) (by decide +kernel))) (hs _ (List.mem_of_getElem? (i := 479) (by decide +kernel))) (hs _ (List.mem_of_getElem? (i := 480) (by decide +kernel))) (hs _ (List.mem_of_getElem? (i := 481) (by decide +kernel))) (fun j hj => ?_)
  match j, hj with
  | 0, _ => exact hs _ (List.mem_of_getElem? (i := 482) (by decide +kernel))
  | 1, _ => exact hs _ (List.mem_of_getElem? (i := 483) (by decide +kernel))
  | 2, _ => exact hs _ (List.mem_of_getElem? (i := 484) (by decide +kernel))
  | 3, _ => exact hs _ (List.mem_of_getElem? (i := 485) (by decide +kernel))
  | j + 4, hj => exact absurd hj (by simp)
theorem st_s21 {args : Array Value} {s : State} {A : Nat → Prop} (hA : ∀ a : Nat, a < s.heap.size → ¬ A a) (hs : ∀ c ∈ st_fl, c.before args s = true) : ∃ q, st_P args s A ("RoomNumbersModel", 130, [115, 117, 109]) q := by
  refine st_str (bs := [115, 117, 109]) (by decide) hA (hs _ (List.mem_of_getElem? (i := 505) (by decide +kernel))) (hs _ (List.mem_of_getElem? (i := 506) (by decide +kernel))) (hs _ (List.mem_of_getElem? (i := 507) (by decide +kernel))) (hs _ (List.mem_of_getElem? (i := 508) (by decide +kernel))) (fun j hj => ?_)
  match j, hj with
  | 0, _ => exact hs _ (List.mem_of_getElem? (i := 509) (by decide +kernel))
  | 1, _ => exact hs _ (List.mem_of_getElem? (i := 510) (by decide +kernel))
  | 2, _ => exact hs _ (List.mem_of_getElem? (i := 511) (by decide +kernel))
  | j + 3, hj => exact absurd hj (by simp)
theorem st_s22 {args : Array Value} {s : State} {A : Nat → Prop} (hA : ∀ a : Nat, a < s.heap.size → ¬ A a) (hs : ∀ c ∈ st_fl, c.before args s = true) : ∃ q, st_P args s A ("RoomNumbersModel", 132, [119, 104, 111, 108, 101]) q := by
  refine st_str (bs := [119, 104, 111, 108, 101]) (by decide) hA (hs _ (List.mem_of_getElem? (i := 532) (by decide +kernel))) (hs _ (List.mem_of_getElem? (i := 533) (by decide +kernel))) (hs _ (List.mem_of_getElem? (i := 534) (by decide +kernel))) (hs _ (List.mem_of_getElem? (i := 535) (by decide +kernel))) (fun j hj => ?_)
  match j, hj with
  | 0, _ => exact hs _ (List.mem_of_getElem? (i := 536) (by decide +kernel))
  | 1, _ => exact hs _ (List.mem_of_getElem? (i := 537) (by decide +kernel))
  | 2, _ => exact hs _ (List.mem_of_getElem? (i := 538) (by decide +kernel))
  | 3, _ => exact hs _ (List.mem_of_getElem? (i := 539) (by decide +kernel))
  | 4, _ => exact hs _ (List.mem_of_getElem? (i := 540) (by decide +kernel))
  | j + 5, hj => exact absurd hj (by simp)
theorem st_s23 {args : Array Value} {s : State} {A : Nat → Prop} (hA : ∀ a : Nat, a < s.heap.size → ¬ A a) (hs : ∀ c ∈ st_fl, c.before args s = true) : ∃ q, st_P args s A ("RoomNumbersModel", 140, [101, 118, 101, 110, 105, 110, 103]) q := by
  refine st_str (bs := [101, 118, 101, 110, 105, 110, 103]) (by decide) hA (hs _ (List.mem_of_getElem? (i := 590) (by decide +kernel))) (hs _ (List.mem_of_getElem? (i := 591) (by decide +kernel))) (hs _ (List.mem_of_getElem? (i := 592) (by decide +kernel))) (hs _ (List.mem_of_getElem? (i := 593) (by decide +kernel))) (fun j hj => ?_)
  match j, hj with
  | 0, _ => exact hs _ (List.mem_of_getElem? (i := 594) (by decide +kernel))
  | 1, _ => exact hs _ (List.mem_of_getElem? (i := 595) (by decide +kernel))
  | 2, _ => exact hs _ (List.mem_of_getElem? (i := 596) (by decide +kernel))
  | 3, _ => exact hs _ (List.mem_of_getElem? (i := 597) (by decide +kernel))
  | 4, _ => exact hs _ (List.mem_of_getElem? (i := 598) (by decide +kernel))
  | 5, _ => exact hs _ (List.mem_of_getElem? (i := 599) (by decide +kernel))
  | 6, _ => exact hs _ (List.mem_of_getElem? (i := 600) (by decide +kernel))
  | j + 7, hj => exact absurd hj (by simp)
theorem st_all {args : Array Value} {s : State} {A : Nat → Prop} (hA : ∀ a : Nat, a < s.heap.size → ¬ A a) (hs : ∀ c ∈ st_fl, c.before args s = true) : ∃ f : Nat → Nat × Nat, ∀ k, k < 24 → st_P args s A (st_en k) (f k) := by
  have h : ∀ k, ∃ q : Nat × Nat, k < 24 → st_P args s A (st_en k) q := by
    intro k
    match k with
    | 0 => obtain ⟨q, hq⟩ := st_s0 hA hs; exact ⟨q, fun _ => hq⟩
    | 1 => obtain ⟨q, hq⟩ := st_s1 hA hs; exact ⟨q, fun _ => hq⟩
    | 2 => obtain ⟨q, hq⟩ := st_s2 hA hs; exact ⟨q, fun _ => hq⟩
    | 3 => obtain ⟨q, hq⟩ := st_s3 hA hs; exact ⟨q, fun _ => hq⟩
    | 4 => obtain ⟨q, hq⟩ := st_s4 hA hs; exact ⟨q, fun _ => hq⟩
    | 5 => obtain ⟨q, hq⟩ := st_s5 hA hs; exact ⟨q, fun _ => hq⟩
    | 6 => obtain ⟨q, hq⟩ := st_s6 hA hs; exact ⟨q, fun _ => hq⟩
    | 7 => obtain ⟨q, hq⟩ := st_s7 hA hs; exact ⟨q, fun _ => hq⟩
    | 8 => obtain ⟨q, hq⟩ := st_s8 hA hs; exact ⟨q, fun _ => hq⟩
    | 9 => obtain ⟨q, hq⟩ := st_s9 hA hs; exact ⟨q, fun _ => hq⟩
    | 10 => obtain ⟨q, hq⟩ := st_s10 hA hs; exact ⟨q, fun _ => hq⟩
    | 11 => obtain ⟨q, hq⟩ := st_s11 hA hs; exact ⟨q, fun _ => hq⟩
    | 12 => obtain ⟨q, hq⟩ := st_s12 hA hs; exact ⟨q, fun _ => hq⟩
    | 13 => obtain ⟨q, hq⟩ := st_s13 hA hs; exact ⟨q, fun _ => hq⟩
    | 14 => obtain ⟨q, hq⟩ := st_s14 hA hs; exact ⟨q, fun _ => hq⟩
    | 15 => obtain ⟨q, hq⟩ := st_s15 hA hs; exact ⟨q, fun _ => hq⟩
    | 16 => obtain ⟨q, hq⟩ := st_s16 hA hs; exact ⟨q, fun _ => hq⟩
    | 17 => obtain ⟨q, hq⟩ := st_s17 hA hs; exact ⟨q, fun _ => hq⟩
    | 18 => obtain ⟨q, hq⟩ := st_s18 hA hs; exact ⟨q, fun _ => hq⟩
    | 19 => obtain ⟨q, hq⟩ := st_s19 hA hs; exact ⟨q, fun _ => hq⟩
    | 20 => obtain ⟨q, hq⟩ := st_s20 hA hs; exact ⟨q, fun _ => hq⟩
    | 21 => obtain ⟨q, hq⟩ := st_s21 hA hs; exact ⟨q, fun _ => hq⟩
    | 22 => obtain ⟨q, hq⟩ := st_s22 hA hs; exact ⟨q, fun _ => hq⟩
    | 23 => obtain ⟨q, hq⟩ := st_s23 hA hs; exact ⟨q, fun _ => hq⟩
    | k + 24 => exact ⟨(0, 0), fun h => absurd h (by omega)⟩
  exact ⟨fun k => Classical.choose (h k), fun k hk => Classical.choose_spec (h k) hk⟩
theorem st_r1 {args : Array Value} {s : State} {A : Nat → Prop} (hA : ∀ a : Nat, a < s.heap.size → ¬ A a) (ht : ∀ w ∈ lw_tbl, w.before args s = true) (hs : ∀ c ∈ st_fl, c.before args s = true) : ∃ t : Nat, va_Z "RoomNumbers$Finder" "FIRST" "[I" (.ref t) A s s.heap ∧ va_T .int t 8 (fun j => .int (Int32.ofInt (st_1.getD j 0))) A s s.heap := by
  have hel : ∀ j : Nat, j < 8 → (Term.elem (Jvm.Term.static "RoomNumbers$Finder" "FIRST" "[I") (.int (Int32.ofNat j))).eval args s none [] s = some (.int (Int32.ofInt (st_1.getD j 0))) := by
    intro j hj
    apply va_eqt
    match j, hj with
    | 0, _ => exact hs _ (List.mem_of_getElem? (i := 12) (by decide +kernel))
    | 1, _ => exact hs _ (List.mem_of_getElem? (i := 13) (by decide +kernel))
    | 2, _ => exact hs _ (List.mem_of_getElem? (i := 14) (by decide +kernel))
    | 3, _ => exact hs _ (List.mem_of_getElem? (i := 15) (by decide +kernel))
    | 4, _ => exact hs _ (List.mem_of_getElem? (i := 16) (by decide +kernel))
    | 5, _ => exact hs _ (List.mem_of_getElem? (i := 17) (by decide +kernel))
    | 6, _ => exact hs _ (List.mem_of_getElem? (i := 18) (by decide +kernel))
    | 7, _ => exact hs _ (List.mem_of_getElem? (i := 19) (by decide +kernel))
    | j + 8, hj => exact absurd hj (by omega)
  obtain ⟨t, e, hT⟩ := va_Tof (tm := (Jvm.Term.static "RoomNumbers$Finder" "FIRST" "[I")) (ty := .int) (N := 8) (f := fun j => .int (Int32.ofInt (st_1.getD j 0))) (A := A) (by decide) (hs _ (List.mem_of_getElem? (i := 10) (by decide +kernel))) (va_eqt (hs _ (List.mem_of_getElem? (i := 11) (by decide +kernel)))) hel hA
  exact ⟨t, va_Zof (ht _ (tb_l4 (List.mem_of_getElem? (i := 13) rfl))) (ht _ (List.mem_filter.mp tw_2).1) e hA, hT⟩
theorem st_r2 {args : Array Value} {s : State} {A : Nat → Prop} (hA : ∀ a : Nat, a < s.heap.size → ¬ A a) (ht : ∀ w ∈ lw_tbl, w.before args s = true) (hs : ∀ c ∈ st_fl, c.before args s = true) : ∃ t : Nat, va_Z "RoomNumbers$Finder" "SECOND" "[I" (.ref t) A s s.heap ∧ va_T .int t 8 (fun j => .int (Int32.ofInt (st_2.getD j 0))) A s s.heap := by
  have hel : ∀ j : Nat, j < 8 → (Term.elem (Jvm.Term.static "RoomNumbers$Finder" "SECOND" "[I") (.int (Int32.ofNat j))).eval args s none [] s = some (.int (Int32.ofInt (st_2.getD j 0))) := by
    intro j hj
    apply va_eqt
    match j, hj with
    | 0, _ => exact hs _ (List.mem_of_getElem? (i := 23) (by decide +kernel))
    | 1, _ => exact hs _ (List.mem_of_getElem? (i := 24) (by decide +kernel))
    | 2, _ => exact hs _ (List.mem_of_getElem? (i := 25) (by decide +kernel))
    | 3, _ => exact hs _ (List.mem_of_getElem? (i := 26) (by decide +kernel))
    | 4, _ => exact hs _ (List.mem_of_getElem? (i := 27) (by decide +kernel))
    | 5, _ => exact hs _ (List.mem_of_getElem? (i := 28) (by decide +kernel))
    | 6, _ => exact hs _ (List.mem_of_getElem? (i := 29) (by decide +kernel))
    | 7, _ => exact hs _ (List.mem_of_getElem? (i := 30) (by decide +kernel))
    | j + 8, hj => exact absurd hj (by omega)
  obtain ⟨t, e, hT⟩ := va_Tof (tm := (Jvm.Term.static "RoomNumbers$Finder" "SECOND" "[I")) (ty := .int) (N := 8) (f := fun j => .int (Int32.ofInt (st_2.getD j 0))) (A := A) (by decide) (hs _ (List.mem_of_getElem? (i := 21) (by decide +kernel))) (va_eqt (hs _ (List.mem_of_getElem? (i := 22) (by decide +kernel)))) hel hA
  exact ⟨t, va_Zof (ht _ (tb_l4 (List.mem_of_getElem? (i := 15) rfl))) (ht _ (List.mem_filter.mp tw_2).1) e hA, hT⟩
theorem st_cs {args : Array Value} {s : State} {A : Nat → Prop} (hA : ∀ a : Nat, a < s.heap.size → ¬ A a) (ht : ∀ w ∈ lw_tbl, w.before args s = true) (hs : ∀ c ∈ st_fl, c.before args s = true) : va_Z "java/lang/String" "COMPACT_STRINGS" "Z" (.int 1) A s s.heap := va_Zof (ht _ (tb_l2 (List.mem_of_getElem? (i := 72) rfl))) (ht _ (List.mem_filter.mp tw_9).1) (va_eqt (hs _ (List.mem_of_getElem? (i := 4) (by decide +kernel)))) hA
theorem st_si {args : Array Value} {s : State} {A : Nat → Prop} (hA : ∀ a : Nat, a < s.heap.size → ¬ A a) (ht : ∀ w ∈ lw_tbl, w.before args s = true) (hs : ∀ c ∈ st_fl, c.before args s = true) : va_Zq "jdk/internal/util/Preconditions" "SIOOBE_FORMATTER" "Ljava/util/function/BiFunction;" A s s.heap := va_Zqof (ht _ (tb_l2 (List.mem_of_getElem? (i := 88) rfl))) (ht _ (List.mem_filter.mp tw_11).1) (hs _ (List.mem_of_getElem? (i := 5) (by decide +kernel))) hA
theorem st_nc {args : Array Value} {s : State} (hs : ∀ c ∈ st_fl, c.before args s = true) : ∀ q ∈ so_nc, va_Nc q.1 q.2 s := by
  intro q hq
  unfold so_nc at hq
  simp only [List.mem_cons, List.not_mem_nil, or_false] at hq
  rcases hq with rfl | rfl | rfl | rfl | rfl | rfl | rfl | rfl | rfl | rfl | rfl | rfl | rfl | rfl | rfl | rfl | rfl | rfl | rfl | rfl | rfl | rfl | rfl
  · exact va_Nc.of (hs _ (List.mem_of_getElem? (i := 40) (by decide +kernel)))
  · exact va_Nc.of (hs _ (List.mem_of_getElem? (i := 37) (by decide +kernel)))
  · exact va_Nc.of (hs _ (List.mem_of_getElem? (i := 38) (by decide +kernel)))
  · exact va_Nc.of (hs _ (List.mem_of_getElem? (i := 39) (by decide +kernel)))
  · exact va_Nc.of (hs _ (List.mem_of_getElem? (i := 51) (by decide +kernel)))
  · exact va_Nc.of (hs _ (List.mem_of_getElem? (i := 48) (by decide +kernel)))
  · exact va_Nc.of (hs _ (List.mem_of_getElem? (i := 49) (by decide +kernel)))
  · exact va_Nc.of (hs _ (List.mem_of_getElem? (i := 50) (by decide +kernel)))
  · exact va_Nc.of (hs _ (List.mem_of_getElem? (i := 63) (by decide +kernel)))
  · exact va_Nc.of (hs _ (List.mem_of_getElem? (i := 59) (by decide +kernel)))
  · exact va_Nc.of (hs _ (List.mem_of_getElem? (i := 60) (by decide +kernel)))
  · exact va_Nc.of (hs _ (List.mem_of_getElem? (i := 61) (by decide +kernel)))
  · exact va_Nc.of (hs _ (List.mem_of_getElem? (i := 62) (by decide +kernel)))
  · exact va_Nc.of (hs _ (List.mem_of_getElem? (i := 75) (by decide +kernel)))
  · exact va_Nc.of (hs _ (List.mem_of_getElem? (i := 71) (by decide +kernel)))
  · exact va_Nc.of (hs _ (List.mem_of_getElem? (i := 72) (by decide +kernel)))
  · exact va_Nc.of (hs _ (List.mem_of_getElem? (i := 73) (by decide +kernel)))
  · exact va_Nc.of (hs _ (List.mem_of_getElem? (i := 74) (by decide +kernel)))
  · exact va_Nc.of (hs _ (List.mem_of_getElem? (i := 87) (by decide +kernel)))
  · exact va_Nc.of (hs _ (List.mem_of_getElem? (i := 83) (by decide +kernel)))
  · exact va_Nc.of (hs _ (List.mem_of_getElem? (i := 84) (by decide +kernel)))
  · exact va_Nc.of (hs _ (List.mem_of_getElem? (i := 85) (by decide +kernel)))
  · exact va_Nc.of (hs _ (List.mem_of_getElem? (i := 86) (by decide +kernel)))
theorem st_nw {args : Array Value} {s : State} (ht : ∀ w ∈ lw_tbl, w.before args s = true) : ∀ w ∈ so_nw, va_Nw w s := by
  intro w hq
  unfold so_nw at hq
  simp only [List.mem_cons, List.not_mem_nil, or_false] at hq
  rcases hq with rfl | rfl | rfl | rfl | rfl | rfl | rfl | rfl | rfl | rfl | rfl | rfl | rfl | rfl | rfl | rfl
  · exact va_Nw.of rfl (ht _ tw_542)
  · exact va_Nw.of rfl (ht _ tw_608)
  · exact va_Nw.of rfl (ht _ tw_657)
  · exact va_Nw.of rfl (ht _ tw_740)
  · exact va_Nw.of rfl (ht _ tw_765)
  · exact va_Nw.of rfl (ht _ tw_795)
  · exact va_Nw.of rfl (ht _ tw_1016)
  · exact va_Nw.of rfl (ht _ tw_1038)
  · exact va_Nw.of rfl (ht _ tw_1054)
  · exact va_Nw.of rfl (ht _ tw_1598)
  · exact va_Nw.of rfl (ht _ tw_1599)
  · exact va_Nw.of rfl (ht _ tw_1600)
  · exact va_Nw.of rfl (ht _ tw_1601)
  · exact va_Nw.of rfl (ht _ tw_1602)
  · exact va_Nw.of rfl (ht _ tw_1603)
  · exact va_Nw.of rfl (ht _ tw_1604)
theorem st_sr {args : Array Value} {s : State} {B : Nat} {ga : Int → Nat} (ht : ∀ w ∈ lw_tbl, w.before args s = true) (hk : ∀ k : Nat, k < 24 → (Term.string (st_en k).1 (st_en k).2.1).eval args s none [] s = some (.ref (so_ad B ga (-10 - (k : Int))))) : ∀ q ∈ so_sr, vk_R q.1 q.2.1 q.2.2.1 (so_ad B ga q.2.2.2) s := by
  intro q hq
  unfold so_sr at hq
  simp only [List.mem_cons, List.not_mem_nil, or_false] at hq
  rcases hq with rfl | rfl | rfl | rfl | rfl | rfl | rfl | rfl | rfl | rfl | rfl | rfl | rfl | rfl | rfl | rfl | rfl | rfl | rfl | rfl | rfl | rfl | rfl | rfl
  · exact vk_R.of (A := args) (ht _ tw_498) (hk 0 (by decide))
  · exact vk_R.of (A := args) (ht _ tw_298) (hk 1 (by decide))
  · exact vk_R.of (A := args) (ht _ tw_351) (hk 2 (by decide))
  · exact vk_R.of (A := args) (ht _ tw_352) (hk 3 (by decide))
  · exact vk_R.of (A := args) (ht _ tw_353) (hk 4 (by decide))
  · exact vk_R.of (A := args) (ht _ tw_354) (hk 5 (by decide))
  · exact vk_R.of (A := args) (ht _ tw_355) (hk 6 (by decide))
  · exact vk_R.of (A := args) (ht _ tw_360) (hk 7 (by decide))
  · exact vk_R.of (A := args) (ht _ tw_361) (hk 8 (by decide))
  · exact vk_R.of (A := args) (ht _ tw_362) (hk 9 (by decide))
  · exact vk_R.of (A := args) (ht _ tw_363) (hk 10 (by decide))
  · exact vk_R.of (A := args) (ht _ tw_372) (hk 11 (by decide))
  · exact vk_R.of (A := args) (ht _ tw_1233) (hk 12 (by decide))
  · exact vk_R.of (A := args) (ht _ tw_1240) (hk 13 (by decide))
  · exact vk_R.of (A := args) (ht _ tw_1241) (hk 14 (by decide))
  · exact vk_R.of (A := args) (ht _ tw_1242) (hk 15 (by decide))
  · exact vk_R.of (A := args) (ht _ tw_1243) (hk 16 (by decide))
  · exact vk_R.of (A := args) (ht _ tw_1244) (hk 17 (by decide))
  · exact vk_R.of (A := args) (ht _ tw_1257) (hk 18 (by decide))
  · exact vk_R.of (A := args) (ht _ tw_1245) (hk 19 (by decide))
  · exact vk_R.of (A := args) (ht _ tw_1246) (hk 20 (by decide))
  · exact vk_R.of (A := args) (ht _ tw_1247) (hk 21 (by decide))
  · exact vk_R.of (A := args) (ht _ tw_1248) (hk 22 (by decide))
  · exact vk_R.of (A := args) (ht _ tw_1266) (hk 23 (by decide))
