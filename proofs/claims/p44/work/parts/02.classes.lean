def pv_T0 : u_T := fun k => match k with
  | 0 => ("AngleNet", "tape", "LAngleNet$Tape;", true)
  | 1 => ("AngleNet", "now", "LAngleNet$Net;", true)
  | 2 => ("AngleNet", "thought", "LAngleNet$Net;", true)
  | 3 => ("AngleNet", "images", "[LAngleNet$Net;", true)
  | 4 => ("AngleNet", "kept", "[Z", true)
  | 5 => ("AngleNet", "slots", "[LAngleNet$Row;", true)
  | 6 => ("AngleNet", "shape", "LAngleNet$Shape;", true)
  | 7 => ("AngleNet", "laying", "LAngleNet$Laying;", true)
  | _ => ("AngleNet", "currents", "LAngleNet$Currents;", true)
def pv_t0 : Nat → FieldType := fun k => match k with
  | 0 => .object "AngleNet$Tape"
  | 1 => .object "AngleNet$Net"
  | 2 => .object "AngleNet$Net"
  | 3 => .array (.object "AngleNet$Net")
  | 4 => .array .boolean
  | 5 => .array (.object "AngleNet$Row")
  | 6 => .object "AngleNet$Shape"
  | 7 => .object "AngleNet$Laying"
  | _ => .object "AngleNet$Currents"
theorem pv_n0 : ∀ a, a < 9 → ∀ b, b < 9 → a ≠ b → (pv_T0 a).2.1 ≠ (pv_T0 b).2.1 := by decide +kernel
theorem pv_k0 : ∀ k, k < 9 → parseFieldDescriptor (pv_T0 k).2.2.1 = some (pv_t0 k) := by decide +kernel
theorem pv_w0 : ∀ w ∈ u_ws "AngleNet" pv_T0 9, w ∈ lw_tbl := by decide +kernel
def pv_T1 : u_T := fun k => match k with
  | 0 => ("AngleNet$Tape", "length", "I", false)
  | 1 => ("AngleNet$Tape", "fault", "I", false)
  | 2 => ("AngleNet$Tape", "place", "I", false)
  | 3 => ("AngleNet$Tape", "draft", "LAngleNet$Net;", true)
  | 4 => ("AngleNet$Tape", "bytes", "[B", true)
  | 5 => ("AngleNet$Tape", "start", "I", false)
  | 6 => ("AngleNet$Tape", "stop", "I", false)
  | 7 => ("AngleNet$Tape", "kind", "I", false)
  | 8 => ("AngleNet$Tape", "taken", "I", false)
  | 9 => ("AngleNet$Tape", "takenAt", "I", false)
  | _ => ("AngleNet$Tape", "cornerTold", "Z", false)
def pv_t1 : Nat → FieldType := fun k => match k with
  | 0 => .int
  | 1 => .int
  | 2 => .int
  | 3 => .object "AngleNet$Net"
  | 4 => .array .byte
  | 5 => .int
  | 6 => .int
  | 7 => .int
  | 8 => .int
  | 9 => .int
  | _ => .boolean
theorem pv_n1 : ∀ a, a < 11 → ∀ b, b < 11 → a ≠ b → (pv_T1 a).2.1 ≠ (pv_T1 b).2.1 := by decide +kernel
theorem pv_k1 : ∀ k, k < 11 → parseFieldDescriptor (pv_T1 k).2.2.1 = some (pv_t1 k) := by decide +kernel
theorem pv_w1 : ∀ w ∈ u_ws "AngleNet$Tape" pv_T1 11, w ∈ lw_tbl := by decide +kernel
def pv_T2 : u_T := fun k => match k with
  | 0 => ("AngleNet$Net", "posts", "I", false)
  | 1 => ("AngleNet$Net", "thirds", "I", false)
  | 2 => ("AngleNet$Net", "lines", "I", false)
  | 3 => ("AngleNet$Net", "least", "I", false)
  | 4 => ("AngleNet$Net", "most", "I", false)
  | 5 => ("AngleNet$Net", "corners", "[I", true)
  | 6 => ("AngleNet$Net", "sums", "[I", true)
  | 7 => ("AngleNet$Net", "angles", "[I", true)
  | 8 => ("AngleNet$Net", "xs", "[I", true)
  | 9 => ("AngleNet$Net", "ys", "[I", true)
  | 10 => ("AngleNet$Net", "circles", "[I", true)
  | 11 => ("AngleNet$Net", "weights", "[I", true)
  | 12 => ("AngleNet$Net", "shared", "[I", true)
  | 13 => ("AngleNet$Net", "history", "[I", true)
  | 14 => ("AngleNet$Net", "done", "I", false)
  | _ => ("AngleNet$Net", "remembered", "I", false)
def pv_t2 : Nat → FieldType := fun k => match k with
  | 0 => .int
  | 1 => .int
  | 2 => .int
  | 3 => .int
  | 4 => .int
  | 5 => .array .int
  | 6 => .array .int
  | 7 => .array .int
  | 8 => .array .int
  | 9 => .array .int
  | 10 => .array .int
  | 11 => .array .int
  | 12 => .array .int
  | 13 => .array .int
  | 14 => .int
  | _ => .int
theorem pv_n2 : ∀ a, a < 16 → ∀ b, b < 16 → a ≠ b → (pv_T2 a).2.1 ≠ (pv_T2 b).2.1 := by decide +kernel
theorem pv_k2 : ∀ k, k < 16 → parseFieldDescriptor (pv_T2 k).2.2.1 = some (pv_t2 k) := by decide +kernel
theorem pv_w2 : ∀ w ∈ u_ws "AngleNet$Net" pv_T2 16, w ∈ lw_tbl := by decide +kernel
def pv_T3 : u_T := fun k => match k with
  | 0 => ("AngleNet$Row", "made", "Z", false)
  | 1 => ("AngleNet$Row", "width", "I", false)
  | 2 => ("AngleNet$Row", "length", "I", false)
  | _ => ("AngleNet$Row", "numbers", "[J", true)
def pv_t3 : Nat → FieldType := fun k => match k with
  | 0 => .boolean
  | 1 => .int
  | 2 => .int
  | _ => .array .long
theorem pv_n3 : ∀ a, a < 4 → ∀ b, b < 4 → a ≠ b → (pv_T3 a).2.1 ≠ (pv_T3 b).2.1 := by decide +kernel
theorem pv_k3 : ∀ k, k < 4 → parseFieldDescriptor (pv_T3 k).2.2.1 = some (pv_t3 k) := by decide +kernel
theorem pv_w3 : ∀ w ∈ u_ws "AngleNet$Row" pv_T3 4, w ∈ lw_tbl := by decide +kernel
def pv_T4 : u_T := fun k => match k with
  | 0 => ("AngleNet$Shape", "turned", "[I", true)
  | _ => ("AngleNet$Shape", "queue", "[I", true)
def pv_t4 : Nat → FieldType := fun k => match k with
  | 0 => .array .int
  | _ => .array .int
theorem pv_n4 : ∀ a, a < 2 → ∀ b, b < 2 → a ≠ b → (pv_T4 a).2.1 ≠ (pv_T4 b).2.1 := by decide +kernel
theorem pv_k4 : ∀ k, k < 2 → parseFieldDescriptor (pv_T4 k).2.2.1 = some (pv_t4 k) := by decide +kernel
theorem pv_w4 : ∀ w ∈ u_ws "AngleNet$Shape" pv_T4 2, w ∈ lw_tbl := by decide +kernel
def pv_T5 : u_T := fun k => match k with
  | 0 => ("AngleNet$Laying", "members", "[I", true)
  | 1 => ("AngleNet$Laying", "postsOf", "[I", true)
  | 2 => ("AngleNet$Laying", "cornersIn", "[I", true)
  | 3 => ("AngleNet$Laying", "size", "I", false)
  | 4 => ("AngleNet$Laying", "set", "I", false)
  | 5 => ("AngleNet$Laying", "most", "I", false)
  | 6 => ("AngleNet$Laying", "least", "I", false)
  | _ => ("AngleNet$Laying", "asked", "I", false)
def pv_t5 : Nat → FieldType := fun k => match k with
  | 0 => .array .int
  | 1 => .array .int
  | 2 => .array .int
  | 3 => .int
  | 4 => .int
  | 5 => .int
  | 6 => .int
  | _ => .int
theorem pv_n5 : ∀ a, a < 8 → ∀ b, b < 8 → a ≠ b → (pv_T5 a).2.1 ≠ (pv_T5 b).2.1 := by decide +kernel
theorem pv_k5 : ∀ k, k < 8 → parseFieldDescriptor (pv_T5 k).2.2.1 = some (pv_t5 k) := by decide +kernel
theorem pv_w5 : ∀ w ∈ u_ws "AngleNet$Laying" pv_T5 8, w ∈ lw_tbl := by decide +kernel
def pv_T6 : u_T := fun k => match k with
  | 0 => ("AngleNet$Currents", "heights", "[J", true)
  | 1 => ("AngleNet$Currents", "cells", "[J", true)
  | 2 => ("AngleNet$Currents", "postOf", "[I", true)
  | _ => ("AngleNet$Currents", "size", "I", false)
def pv_t6 : Nat → FieldType := fun k => match k with
  | 0 => .array .long
  | 1 => .array .long
  | 2 => .array .int
  | _ => .int
theorem pv_n6 : ∀ a, a < 4 → ∀ b, b < 4 → a ≠ b → (pv_T6 a).2.1 ≠ (pv_T6 b).2.1 := by decide +kernel
theorem pv_k6 : ∀ k, k < 4 → parseFieldDescriptor (pv_T6 k).2.2.1 = some (pv_t6 k) := by decide +kernel
theorem pv_w6 : ∀ w ∈ u_ws "AngleNet$Currents" pv_T6 4, w ∈ lw_tbl := by decide +kernel
def pv_T7 : u_T := fun k => match k with
  | 0 => ("AngleNetModel", "thrown", "I", false)
  | 1 => ("AngleNetModel", "world", "[I", true)
  | 2 => ("AngleNetModel", "images", "[I", true)
  | 3 => ("AngleNetModel", "hasImage", "[Z", true)
  | 4 => ("AngleNetModel", "tape", "[B", true)
  | 5 => ("AngleNetModel", "taped", "I", false)
  | 6 => ("AngleNetModel", "five", "[I", true)
  | 7 => ("AngleNetModel", "size", "I", false)
  | 8 => ("AngleNetModel", "at", "I", false)
  | 9 => ("AngleNetModel", "from", "I", false)
  | 10 => ("AngleNetModel", "token", "I", false)
  | 11 => ("AngleNetModel", "value", "I", false)
  | 12 => ("AngleNetModel", "faultKind", "I", false)
  | 13 => ("AngleNetModel", "faultPlace", "I", false)
  | 14 => ("AngleNetModel", "fresh", "[I", true)
  | 15 => ("AngleNetModel", "turned", "[I", true)
  | 16 => ("AngleNetModel", "low", "[I", true)
  | 17 => ("AngleNetModel", "high", "[I", true)
  | 18 => ("AngleNetModel", "drawn", "J", false)
  | 19 => ("AngleNetModel", "rows", "[J", true)
  | 20 => ("AngleNetModel", "picked", "[I", true)
  | 21 => ("AngleNetModel", "pickedMany", "I", false)
  | 22 => ("AngleNetModel", "heights", "[J", true)
  | 23 => ("AngleNetModel", "kept", "[I", true)
  | 24 => ("AngleNetModel", "many", "[I", true)
  | 25 => ("AngleNetModel", "width", "[I", true)
  | 26 => ("AngleNetModel", "numbers", "[J", true)
  | _ => ("AngleNetModel", "moving", "[J", true)
def pv_t7 : Nat → FieldType := fun k => match k with
  | 0 => .int
  | 1 => .array .int
  | 2 => .array .int
  | 3 => .array .boolean
  | 4 => .array .byte
  | 5 => .int
  | 6 => .array .int
  | 7 => .int
  | 8 => .int
  | 9 => .int
  | 10 => .int
  | 11 => .int
  | 12 => .int
  | 13 => .int
  | 14 => .array .int
  | 15 => .array .int
  | 16 => .array .int
  | 17 => .array .int
  | 18 => .long
  | 19 => .array .long
  | 20 => .array .int
  | 21 => .int
  | 22 => .array .long
  | 23 => .array .int
  | 24 => .array .int
  | 25 => .array .int
  | 26 => .array .long
  | _ => .array .long
theorem pv_n7 : ∀ a, a < 28 → ∀ b, b < 28 → a ≠ b → (pv_T7 a).2.1 ≠ (pv_T7 b).2.1 := by decide +kernel
theorem pv_k7 : ∀ k, k < 28 → parseFieldDescriptor (pv_T7 k).2.2.1 = some (pv_t7 k) := by decide +kernel
theorem pv_w7 : ∀ w ∈ u_ws "AngleNetModel" pv_T7 28, w ∈ lw_tbl := by decide +kernel
abbrev pv_cls : List vw_C := [("AngleNet", pv_T0, 9), ("AngleNet$Tape", pv_T1, 11), ("AngleNet$Net", pv_T2, 16), ("AngleNet$Row", pv_T3, 4), ("AngleNet$Shape", pv_T4, 2), ("AngleNet$Laying", pv_T5, 8), ("AngleNet$Currents", pv_T6, 4), ("AngleNetModel", pv_T7, 28)]
theorem pv_clsok : ∀ (ci : Nat) (q : vw_C), pv_cls[ci]? = some q → (∀ w ∈ u_ws q.1 q.2.1 q.2.2, w ∈ lw_tbl) ∧ (∀ a, a < q.2.2 → ∀ b, b < q.2.2 → a ≠ b → (q.2.1 a).2.1 ≠ (q.2.1 b).2.1) ∧ ∃ ty : Nat → FieldType, ∀ k, k < q.2.2 → parseFieldDescriptor (q.2.1 k).2.2.1 = some (ty k) := by
  intro ci q h
  match ci, h with
  | 0, h => cases h; exact ⟨pv_w0, pv_n0, pv_t0, pv_k0⟩
  | 1, h => cases h; exact ⟨pv_w1, pv_n1, pv_t1, pv_k1⟩
  | 2, h => cases h; exact ⟨pv_w2, pv_n2, pv_t2, pv_k2⟩
  | 3, h => cases h; exact ⟨pv_w3, pv_n3, pv_t3, pv_k3⟩
  | 4, h => cases h; exact ⟨pv_w4, pv_n4, pv_t4, pv_k4⟩
  | 5, h => cases h; exact ⟨pv_w5, pv_n5, pv_t5, pv_k5⟩
  | 6, h => cases h; exact ⟨pv_w6, pv_n6, pv_t6, pv_k6⟩
  | 7, h => cases h; exact ⟨pv_w7, pv_n7, pv_t7, pv_k7⟩
  | n + 8, h => simp [pv_cls] at h
/-- the room that each method needs: frames, words of locals -/
def pv_rms : List (Nat × Nat) := [(3, 60), (0, 0), (2, 40), (1, 20), (1, 20), (1, 20), (1, 20), (1, 20), (1, 22), (0, 0), (0, 0), (10, 221), (9, 200), (1, 23), (0, 0), (0, 0), (1, 20), (0, 0), (0, 0), (8, 179), (5, 110), (1, 20), (0, 0), (4, 85), (0, 0), (2, 43), (1, 22), (0, 0), (3, 64), (2, 43), (0, 0), (1, 20), (3, 62), (2, 40), (0, 0), (0, 0), (0, 0), (7, 156), (3, 62), (1, 21), (0, 0), (6, 132), (1, 25), (0, 0), (4, 82), (6, 132), (4, 82), (1, 21), (0, 0), (0, 0), (4, 82), (4, 82), (1, 60), (0, 0), (1, 21), (0, 0), (3, 66), (2, 43), (1, 21), (2, 43), (1, 21), (3, 67), (2, 43), (6, 136), (0, 0), (4, 88), (1, 21), (0, 0), (3, 66), (4, 93), (3, 66), (2, 47), (1, 21), (3, 76), (2, 49), (1, 24), (0, 0), (0, 0), (3, 66), (2, 43), (1, 21), (4, 90), (3, 66), (5, 115), (5, 115), (3, 79), (2, 43), (2, 55), (1, 30), (0, 0), (1, 21), (3, 66), (5, 126), (4, 102), (0, 0), (2, 52), (1, 30), (0, 0), (1, 30), (3, 77), (2, 52), (0, 0), (1, 20), (5, 126), (5, 129), (4, 102), (2, 52), (2, 52), (1, 21), (5, 129), (4, 102), (2, 42), (1, 21), (0, 0), (3, 65), (1, 26), (0, 0), (0, 0), (4, 106), (3, 79), (2, 55), (1, 23), (5, 134), (4, 111), (3, 82), (1, 60), (1, 25), (5, 128), (4, 106), (5, 134), (4, 94), (3, 72), (2, 50), (5, 132), (4, 111), (5, 134), (2, 43), (6, 136), (5, 115), (2, 43), (1, 24), (0, 0), (2, 42), (0, 0), (6, 136), (1, 24), (5, 119), (4, 92), (0, 0), (3, 66), (1, 31), (0, 0), (5, 119), (2, 47), (5, 119), (2, 43), (0, 0), (0, 0), (2, 43), (5, 119), (1, 29), (0, 0), (0, 0), (1, 29), (5, 135), (0, 0), (4, 111), (1, 28), (0, 0), (0, 0), (0, 0), (4, 88), (0, 0), (0, 0), (2, 81), (2, 81), (2, 46), (1, 24), (1, 23), (0, 0), (1, 60), (0, 0), (1, 20), (1, 25), (0, 0), (1, 25), (0, 0), (1, 25), (0, 0), (12, 261), (1, 30), (0, 0), (0, 0), (11, 241), (8, 176), (7, 155), (6, 133), (5, 110), (1, 20), (2, 51), (10, 219), (7, 155), (3, 74), (4, 94), (1, 22), (0, 0), (1, 22), (9, 199), (4, 94), (4, 94), (2, 46), (1, 25), (0, 0), (4, 90), (1, 25), (0, 0), (0, 0), (3, 68), (2, 46), (3, 68), (2, 46), (5, 114), (4, 90), (7, 154), (0, 0), (5, 113), (1, 22), (0, 0), (4, 90), (3, 72), (2, 46), (1, 22), (4, 95), (3, 68), (3, 70), (2, 46), (1, 22), (3, 68), (3, 68), (6, 133), (5, 113), (4, 90), (2, 45), (1, 22), (2, 45), (1, 22), (1, 22), (4, 100), (1, 20), (3, 78), (2, 56), (1, 30), (1, 30), (4, 101), (3, 78), (5, 122), (4, 100), (2, 46), (3, 78), (4, 90), (3, 67), (2, 46), (1, 22), (4, 100), (3, 73), (2, 45), (6, 142), (5, 114), (4, 90), (1, 22), (0, 0), (5, 114), (3, 70), (0, 0), (0, 0), (7, 164), (6, 142), (7, 164), (1, 25), (4, 100), (6, 136), (0, 0), (4, 90), (0, 0), (7, 153), (6, 133), (5, 114), (5, 114), (4, 90), (5, 114), (7, 153), (5, 114), (6, 142), (5, 120), (2, 44), (4, 90), (1, 26), (0, 0), (6, 143), (5, 120), (5, 115), (7, 163), (6, 140), (4, 90), (0, 0), (7, 163), (2, 57), (1, 22), (2, 57), (6, 136), (1, 25), (2, 53), (1, 25), (0, 0), (5, 113), (3, 67), (2, 45), (2, 45), (0, 0), (2, 45)]
