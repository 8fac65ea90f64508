def dkM (N : Nat) (P H F T : Nat → Int32) (a : Nat) : Int32 := orN (fun b => lkM P H F T a b) N
def lsM (N : Nat) (P H F T : Nat → Int32) (a : Nat) : Int32 := bitC (dkM N P H F T a)
def ctM (N : Nat) (P H F T : Nat → Int32) (b : Nat) : Int32 := sumN (fun a => bitC (lkM P H F T a b)) N
def alM (N : Nat) (P H F T : Nat → Int32) : Int32 := sumN (fun a => lsM N P H F T a) N
