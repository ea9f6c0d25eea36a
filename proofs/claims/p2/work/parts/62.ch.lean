/-! ===== the run of a contract ===== -/
def cN : Jvm.ICond → Nat
  | .eq => 0
  | .ne => 1
  | .lt => 2
  | .ge => 3
  | .gt => 4
  | .le => 5
