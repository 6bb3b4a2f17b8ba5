-- THE NEW OBJECTS
def u_0 : am_St := (([], true, 0, 0), fun _ _ => 0, fun _ _ => 0, fun _ _ => none)
def ini6 : Option (Option Value × am_St) := d_X6_init [.ref 0] (am_new u_0 10 17)
theorem ini6_ok : (ini6.map fun q => (q.1, q.2.1.1.length)) = some (none, 156) := by decide +kernel
