def gT : aG := (fun _ _ => r32, fun _ => none)
def cT300 : aCt := (300, 0, some [], false, ([r32, r32], [], [], 212), [(0, fid 0), (0, fid 1)], [(([r32, r32], [(0, [(0, 1), (1, -1)])], [], 212), some (0, fid 0)), (([r32, r32], [(0, [(1, 1), (0, -1)])], [], 212), some (0, fid 1))])
theorem tT300 : ckE 60 gT [] (fun _ => 0) (fun _ _ _ => none) cT300 [] = true := by decide +kernel
