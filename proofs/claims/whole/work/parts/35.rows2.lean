theorem lm_room_i (s : Nat → Nat) (k : Nat) : lm_rm s k 49 0 0 = lm_room s k := by
  unfold lm_room
  rfl
