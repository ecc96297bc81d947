def i_Y : OS := (fun _ => 0, fun _ _ => 0, fun _ _ => 0, fun _ => 0)
