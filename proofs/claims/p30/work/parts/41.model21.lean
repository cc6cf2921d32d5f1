/-- the state at the start -/
def z0 : ST := (0, fun _ _ => 0, fun i => if i = 0 then 31 else 992, 0, cs0, false, 0, fun _ => 0)
