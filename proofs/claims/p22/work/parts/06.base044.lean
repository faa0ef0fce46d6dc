def mpu : List Bool → va_W → va_W → va_W
  | [], _, _ => []
  | _ :: _, _, [] => []
  | true :: _, [], _ :: _ => []
  | true :: ms, x :: xs, _ :: ws => x :: mpu ms xs ws
  | false :: ms, xs, w :: ws => w :: mpu ms xs ws
