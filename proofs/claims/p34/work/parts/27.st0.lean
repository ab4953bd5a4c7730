def mE0 : mE := (fun _ => false, fun _ => 0, fun _ => 0, fun _ => none, fun _ _ => 0, fun _ _ => 0)
def mR0 : mR := (0, fun _ => 0, fun _ => 0, fun _ _ => 0)
def mQ0 : mQ := (0, fun _ => 0, fun _ => 0, fun _ => 0)
def mSt0 : mSt := (mE0, mR0, mQ0, (false, (0, fun _ => 0, 0), mC0), mQ0, 0)
