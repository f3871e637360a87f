/-! laid by wip/whole/h8.py: what the two constructors make, by the kernel -/
def e0H : am_H := (0, 0, fun _ => .inl 0, fun _ _ => none, fun _ _ => 0, fun _ _ => 0)
def nwH (c f : Nat) (h : am_H) : am_H := (h.1 + 1, h.2.1 + f, am_uK h.2.2.1 h.1 (.inl c), (fun b => if b = h.1 then fun _ => none else h.2.2.2.1 b), (fun b => if b = h.1 then fun _ => 0 else h.2.2.2.2.1 b), h.2.2.2.2.2)
def hA : am_A := am_call am_Pq 9 400 M_KneeStair_init [.ref 0] (nwH 8 11 e0H)
def hB : am_A := match hA with
  | some (_, h) => am_call am_Pq 9 400 M_Model_init [.ref 388] (nwH 9 61 h)
  | none => none
def vL0 : List (Nat × Nat × Nat) := [(25, 0, 20), (25, 1, 0), (25, 2, 0), (32, 2, 3), (33, 0, 1), (34, 0, 0), (33, 1, 1), (34, 1, 1), (33, 2, 3), (34, 2, 0), (37, 2, 1), (38, 0, 1), (39, 0, 5), (42, 6, 0), (42, 7, 0), (42, 8, 0), (42, 9, 0), (48, 1, 0), (48, 2, 0), (358, 5, 0), (369, 0, 0), (369, 1, 0), (369, 2, 0), (0, 1, 0), (388, 18, 0), (397, 0, 20), (405, 0, 0), (398, 0, 0), (406, 0, 0), (407, 0, 0), (406, 1, 0), (407, 1, 0), (388, 51, 0), (388, 55, 0), (426, 0, 0), (426, 1, 0), (426, 2, 0), (388, 2, 0)]
def chkF (h : am_H) : Bool := decide (h.1 = 428) && (decide (h.2.1 = 26053) && ((List.range 428).all (fun a => decide (h.2.2.1 a = KD a)) && ((List.range 428).all (fun a => (List.range (bdR (KD a))).all (fun k => decide (h.2.2.2.1 a k = RF a k))) && (vL0.all (fun t => decide (h.2.2.2.2.1 t.1 t.2.1 = nI t.2.2)) && (decide (h.2.2.2.2.1 0 2 = -1 ∧ h.2.2.2.2.1 388 17 = -1) && ((List.range 2000).all (fun k => decide (h.2.2.2.2.1 1 k = 0 ∧ h.2.2.2.2.1 389 k = 0)) && ((List.range 50).all (fun k => decide (h.2.2.2.2.1 418 k = 0)) && (List.range 17).all (fun k => decide (h.2.2.2.2.2 395 k = lN (keyN k))))))))))
def chkA (x : am_A) : Bool := match x with
  | some (none, h) => decide (h.1 = 388)
  | _ => false
def chkB (x : am_A) : Bool := match x with
  | some (none, h) => chkF h
  | _ => false
set_option maxRecDepth 1000000 in
theorem hA_ok : chkA hA = true := by decide +kernel
set_option maxRecDepth 1000000 in
theorem hB_ok : chkB hB = true := by decide +kernel
